section XL
theorem gw_0 : (Cond.selects "RelayHall$Connection" ⟨"RelayHall$Connection", "hasFineHead", "()Z"⟩ ⟨"RelayHall$Connection", "hasFineHead", "()Z"⟩) ∈ lw_G := x_gw (inT_0 _ (List.mem_of_getElem? (i := 0) (by decide +kernel))) rfl
theorem gw_1 : (Cond.selects "RelayHall" ⟨"RelayHall", "sift", "(LRelayHall$Connection;)LRelayHall$Channel;"⟩ ⟨"RelayHall", "sift", "(LRelayHall$Connection;)LRelayHall$Channel;"⟩) ∈ lw_G := x_gw (inT_0 _ (List.mem_of_getElem? (i := 1) (by decide +kernel))) rfl
theorem gw_2 : (Cond.selects "RelayHall" ⟨"RelayHall", "takeOutsideOpen", "(LRelayHall$Connection;)V"⟩ ⟨"RelayHall", "takeOutsideOpen", "(LRelayHall$Connection;)V"⟩) ∈ lw_G := x_gw (inT_0 _ (List.mem_of_getElem? (i := 2) (by decide +kernel))) rfl
theorem gw_3 : (Cond.selects "RelayHall" ⟨"RelayHall", "takeGreeting", "(LRelayHall$Connection;)V"⟩ ⟨"RelayHall", "takeGreeting", "(LRelayHall$Connection;)V"⟩) ∈ lw_G := x_gw (inT_0 _ (List.mem_of_getElem? (i := 3) (by decide +kernel))) rfl
theorem gw_4 : (Cond.selects "RelayHall" ⟨"RelayHall", "answerNumber", "(LRelayHall$Channel;IJI)V"⟩ ⟨"RelayHall", "answerNumber", "(LRelayHall$Channel;IJI)V"⟩) ∈ lw_G := x_gw (inT_0 _ (List.mem_of_getElem? (i := 4) (by decide +kernel))) rfl
theorem gw_5 : (Cond.selects "RelayHall" ⟨"RelayHall", "ship", "(LRelayHall$Connection;)V"⟩ ⟨"RelayHall", "ship", "(LRelayHall$Connection;)V"⟩) ∈ lw_G := x_gw (inT_0 _ (List.mem_of_getElem? (i := 5) (by decide +kernel))) rfl
theorem gw_6 : (Cond.selects "RelayHall" ⟨"RelayHall", "close", "(LRelayHall$Connection;)V"⟩ ⟨"RelayHall", "close", "(LRelayHall$Connection;)V"⟩) ∈ lw_G := x_gw (inT_0 _ (List.mem_of_getElem? (i := 6) (by decide +kernel))) rfl
theorem gw_7 : (Cond.selects "java/util/ArrayList" ⟨"java/util/ArrayList", "add", "(Ljava/lang/Object;[Ljava/lang/Object;I)V"⟩ ⟨"java/util/ArrayList", "add", "(Ljava/lang/Object;[Ljava/lang/Object;I)V"⟩) ∈ lw_G := x_gw (inT_0 _ (List.mem_of_getElem? (i := 7) (by decide +kernel))) rfl
theorem gw_8 : (Cond.selects "java/util/ArrayList" ⟨"java/util/ArrayList", "grow", "()[Ljava/lang/Object;"⟩ ⟨"java/util/ArrayList", "grow", "()[Ljava/lang/Object;"⟩) ∈ lw_G := x_gw (inT_0 _ (List.mem_of_getElem? (i := 8) (by decide +kernel))) rfl
theorem gw_9 : (Cond.selects "java/util/ArrayList" ⟨"java/util/ArrayList", "grow", "(I)[Ljava/lang/Object;"⟩ ⟨"java/util/ArrayList", "grow", "(I)[Ljava/lang/Object;"⟩) ∈ lw_G := x_gw (inT_0 _ (List.mem_of_getElem? (i := 9) (by decide +kernel))) rfl
theorem gw_10 : (Cond.selects "RelayHall" ⟨"RelayHall", "takeNoFrame", "(LRelayHall$Connection;)V"⟩ ⟨"RelayHall", "takeNoFrame", "(LRelayHall$Connection;)V"⟩) ∈ lw_G := x_gw (inT_0 _ (List.mem_of_getElem? (i := 10) (by decide +kernel))) rfl
theorem gw_11 : (Cond.selects "RelayHall" ⟨"RelayHall", "hard", "(LRelayHall$Connection;I)V"⟩ ⟨"RelayHall", "hard", "(LRelayHall$Connection;I)V"⟩) ∈ lw_G := x_gw (inT_0 _ (List.mem_of_getElem? (i := 11) (by decide +kernel))) rfl
theorem gw_12 : (Cond.selects "RelayHall" ⟨"RelayHall", "draftError", "(LRelayHall$Connection;III)V"⟩ ⟨"RelayHall", "draftError", "(LRelayHall$Connection;III)V"⟩) ∈ lw_G := x_gw (inT_0 _ (List.mem_of_getElem? (i := 12) (by decide +kernel))) rfl
theorem gw_13 : (Cond.selects "RelayHall" ⟨"RelayHall", "takeWhileClosing", "(LRelayHall$Connection;)V"⟩ ⟨"RelayHall", "takeWhileClosing", "(LRelayHall$Connection;)V"⟩) ∈ lw_G := x_gw (inT_0 _ (List.mem_of_getElem? (i := 13) (by decide +kernel))) rfl
theorem gw_14 : (Cond.selects "RelayHall" ⟨"RelayHall", "answer", "(LRelayHall$Channel;I)V"⟩ ⟨"RelayHall", "answer", "(LRelayHall$Channel;I)V"⟩) ∈ lw_G := x_gw (inT_0 _ (List.mem_of_getElem? (i := 14) (by decide +kernel))) rfl
theorem gw_15 : (Cond.selects "RelayHall" ⟨"RelayHall", "shakeHands", "(LRelayHall$Connection;)V"⟩ ⟨"RelayHall", "shakeHands", "(LRelayHall$Connection;)V"⟩) ∈ lw_G := x_gw (inT_0 _ (List.mem_of_getElem? (i := 15) (by decide +kernel))) rfl
theorem gw_16 : (Cond.selects "RelayHall" ⟨"RelayHall", "takeStart", "(LRelayHall$Connection;)V"⟩ ⟨"RelayHall", "takeStart", "(LRelayHall$Connection;)V"⟩) ∈ lw_G := x_gw (inT_0 _ (List.mem_of_getElem? (i := 16) (by decide +kernel))) rfl
theorem gw_17 : (Cond.selects "RelayHall" ⟨"RelayHall", "takeTuning", "(LRelayHall$Connection;)V"⟩ ⟨"RelayHall", "takeTuning", "(LRelayHall$Connection;)V"⟩) ∈ lw_G := x_gw (inT_0 _ (List.mem_of_getElem? (i := 17) (by decide +kernel))) rfl
theorem gw_18 : (Cond.selects "RelayHall" ⟨"RelayHall", "takeOpening", "(LRelayHall$Connection;)V"⟩ ⟨"RelayHall", "takeOpening", "(LRelayHall$Connection;)V"⟩) ∈ lw_G := x_gw (inT_0 _ (List.mem_of_getElem? (i := 18) (by decide +kernel))) rfl
theorem gw_19 : (Cond.selects "RelayHall" ⟨"RelayHall", "takeWhileEnding", "(LRelayHall$Channel;)V"⟩ ⟨"RelayHall", "takeWhileEnding", "(LRelayHall$Channel;)V"⟩) ∈ lw_G := x_gw (inT_0 _ (List.mem_of_getElem? (i := 19) (by decide +kernel))) rfl
theorem gw_20 : (Cond.selects "RelayHall" ⟨"RelayHall", "faultOf", "(LRelayHall$Channel;)I"⟩ ⟨"RelayHall", "faultOf", "(LRelayHall$Channel;)I"⟩) ∈ lw_G := x_gw (inT_0 _ (List.mem_of_getElem? (i := 20) (by decide +kernel))) rfl
theorem gw_21 : (Cond.selects "RelayHall" ⟨"RelayHall", "faultOfMethod", "(LRelayHall$Channel;)I"⟩ ⟨"RelayHall", "faultOfMethod", "(LRelayHall$Channel;)I"⟩) ∈ lw_G := x_gw (inT_0 _ (List.mem_of_getElem? (i := 21) (by decide +kernel))) rfl
theorem gw_22 : (Cond.selects "RelayHall" ⟨"RelayHall", "perform", "(LRelayHall$Channel;)V"⟩ ⟨"RelayHall", "perform", "(LRelayHall$Channel;)V"⟩) ∈ lw_G := x_gw (inT_0 _ (List.mem_of_getElem? (i := 22) (by decide +kernel))) rfl
theorem gw_23 : (Cond.selects "RelayHall" ⟨"RelayHall", "closeHall", "(LRelayHall$Channel;)V"⟩ ⟨"RelayHall", "closeHall", "(LRelayHall$Channel;)V"⟩) ∈ lw_G := x_gw (inT_0 _ (List.mem_of_getElem? (i := 23) (by decide +kernel))) rfl
theorem gw_24 : (Cond.selects "RelayHall" ⟨"RelayHall", "skipCloseArguments", "()V"⟩ ⟨"RelayHall", "skipCloseArguments", "()V"⟩) ∈ lw_G := x_gw (inT_0 _ (List.mem_of_getElem? (i := 24) (by decide +kernel))) rfl
theorem gw_25 : (Cond.selects "RelayHall" ⟨"RelayHall", "argumentsEnd", "(LRelayHall$Channel;)Z"⟩ ⟨"RelayHall", "argumentsEnd", "(LRelayHall$Channel;)Z"⟩) ∈ lw_G := x_gw (inT_0 _ (List.mem_of_getElem? (i := 25) (by decide +kernel))) rfl
theorem gw_26 : (Cond.selects "RelayHall" ⟨"RelayHall", "openChannel", "(LRelayHall$Channel;)V"⟩ ⟨"RelayHall", "openChannel", "(LRelayHall$Channel;)V"⟩) ∈ lw_G := x_gw (inT_0 _ (List.mem_of_getElem? (i := 26) (by decide +kernel))) rfl
theorem gw_27 : (Cond.selects "RelayHall" ⟨"RelayHall", "flow", "(LRelayHall$Channel;)V"⟩ ⟨"RelayHall", "flow", "(LRelayHall$Channel;)V"⟩) ∈ lw_G := x_gw (inT_0 _ (List.mem_of_getElem? (i := 27) (by decide +kernel))) rfl
theorem gw_28 : (Cond.selects "RelayHall" ⟨"RelayHall", "closeChannel", "(LRelayHall$Channel;)V"⟩ ⟨"RelayHall", "closeChannel", "(LRelayHall$Channel;)V"⟩) ∈ lw_G := x_gw (inT_0 _ (List.mem_of_getElem? (i := 28) (by decide +kernel))) rfl
theorem gw_29 : (Cond.selects "RelayHall" ⟨"RelayHall", "declareExchange", "(LRelayHall$Channel;)V"⟩ ⟨"RelayHall", "declareExchange", "(LRelayHall$Channel;)V"⟩) ∈ lw_G := x_gw (inT_0 _ (List.mem_of_getElem? (i := 29) (by decide +kernel))) rfl
theorem gw_30 : (Cond.selects "RelayHall$Table" ⟨"RelayHall$Table", "endOfValue", "(I)I"⟩ ⟨"RelayHall$Table", "endOfValue", "(I)I"⟩) ∈ lw_G := x_gw (inT_0 _ (List.mem_of_getElem? (i := 30) (by decide +kernel))) rfl
theorem gw_31 : (Cond.selects "RelayHall$Table" ⟨"RelayHall$Table", "numberAt", "(I)I"⟩ ⟨"RelayHall$Table", "numberAt", "(I)I"⟩) ∈ lw_G := x_gw (inT_0 _ (List.mem_of_getElem? (i := 31) (by decide +kernel))) rfl
theorem gw_33 : (Cond.selects "RelayHall" ⟨"RelayHall", "findExchange", "(Ljava/lang/String;)LRelayHall$Exchange;"⟩ ⟨"RelayHall", "findExchange", "(Ljava/lang/String;)LRelayHall$Exchange;"⟩) ∈ lw_G := x_gw (inT_0 _ (List.mem_of_getElem? (i := 33) (by decide +kernel))) rfl
theorem gw_34 : (Cond.selects "RelayHall" ⟨"RelayHall", "soft", "(LRelayHall$Channel;I)V"⟩ ⟨"RelayHall", "soft", "(LRelayHall$Channel;I)V"⟩) ∈ lw_G := x_gw (inT_0 _ (List.mem_of_getElem? (i := 34) (by decide +kernel))) rfl
theorem gw_35 : (Cond.selects "RelayHall$Table" ⟨"RelayHall$Table", "kindAt", "(I)I"⟩ ⟨"RelayHall$Table", "kindAt", "(I)I"⟩) ∈ lw_G := x_gw (inT_0 _ (List.mem_of_getElem? (i := 35) (by decide +kernel))) rfl
theorem gw_36 : (Cond.selects "RelayHall" ⟨"RelayHall", "makeExchange", "(LRelayHall$Channel;LRelayHall$Exchange;)Z"⟩ ⟨"RelayHall", "makeExchange", "(LRelayHall$Channel;LRelayHall$Exchange;)Z"⟩) ∈ lw_G := x_gw (inT_0 _ (List.mem_of_getElem? (i := 36) (by decide +kernel))) rfl
theorem gw_37 : (Cond.selects "RelayHall" ⟨"RelayHall", "deleteExchange", "(LRelayHall$Channel;)V"⟩ ⟨"RelayHall", "deleteExchange", "(LRelayHall$Channel;)V"⟩) ∈ lw_G := x_gw (inT_0 _ (List.mem_of_getElem? (i := 37) (by decide +kernel))) rfl
theorem gw_38 : (Cond.selects "RelayHall" ⟨"RelayHall", "exchangeFor", "(LRelayHall$Channel;Ljava/lang/String;)LRelayHall$Exchange;"⟩ ⟨"RelayHall", "exchangeFor", "(LRelayHall$Channel;Ljava/lang/String;)LRelayHall$Exchange;"⟩) ∈ lw_G := x_gw (inT_0 _ (List.mem_of_getElem? (i := 38) (by decide +kernel))) rfl
theorem gw_39 : (Cond.selects "RelayHall" ⟨"RelayHall", "bindingsFrom", "(LRelayHall$Exchange;)I"⟩ ⟨"RelayHall", "bindingsFrom", "(LRelayHall$Exchange;)I"⟩) ∈ lw_G := x_gw (inT_0 _ (List.mem_of_getElem? (i := 39) (by decide +kernel))) rfl
theorem gw_40 : (Cond.selects "RelayHall" ⟨"RelayHall", "removeExchange", "(LRelayHall$Exchange;)V"⟩ ⟨"RelayHall", "removeExchange", "(LRelayHall$Exchange;)V"⟩) ∈ lw_G := x_gw (inT_0 _ (List.mem_of_getElem? (i := 40) (by decide +kernel))) rfl
theorem gw_41 : (Cond.selects "java/util/ArrayList" ⟨"java/util/ArrayList", "fastRemove", "([Ljava/lang/Object;I)V"⟩ ⟨"java/util/ArrayList", "fastRemove", "([Ljava/lang/Object;I)V"⟩) ∈ lw_G := x_gw (inT_0 _ (List.mem_of_getElem? (i := 41) (by decide +kernel))) rfl
theorem gw_42 : (Cond.selects "RelayHall" ⟨"RelayHall", "declareQueue", "(LRelayHall$Channel;)V"⟩ ⟨"RelayHall", "declareQueue", "(LRelayHall$Channel;)V"⟩) ∈ lw_G := x_gw (inT_0 _ (List.mem_of_getElem? (i := 42) (by decide +kernel))) rfl
theorem gw_43 : (Cond.selects "RelayHall" ⟨"RelayHall", "lookedFor", "(LRelayHall$Channel;Ljava/lang/String;)LRelayHall$Queue;"⟩ ⟨"RelayHall", "lookedFor", "(LRelayHall$Channel;Ljava/lang/String;)LRelayHall$Queue;"⟩) ∈ lw_G := x_gw (inT_0 _ (List.mem_of_getElem? (i := 43) (by decide +kernel))) rfl
theorem gw_44 : (Cond.selects "RelayHall" ⟨"RelayHall", "findQueue", "(Ljava/lang/String;)LRelayHall$Queue;"⟩ ⟨"RelayHall", "findQueue", "(Ljava/lang/String;)LRelayHall$Queue;"⟩) ∈ lw_G := x_gw (inT_0 _ (List.mem_of_getElem? (i := 44) (by decide +kernel))) rfl
theorem gw_45 : (Cond.selects "RelayHall" ⟨"RelayHall", "makeQueue", "(LRelayHall$Channel;Ljava/lang/String;ILRelayHall$Table;)LRelayHall$Queue;"⟩ ⟨"RelayHall", "makeQueue", "(LRelayHall$Channel;Ljava/lang/String;ILRelayHall$Table;)LRelayHall$Queue;"⟩) ∈ lw_G := x_gw (inT_0 _ (List.mem_of_getElem? (i := 45) (by decide +kernel))) rfl
theorem gw_46 : (Cond.selects "RelayHall" ⟨"RelayHall", "freeNumber", "()I"⟩ ⟨"RelayHall", "freeNumber", "()I"⟩) ∈ lw_G := x_gw (inT_0 _ (List.mem_of_getElem? (i := 46) (by decide +kernel))) rfl
theorem gw_47 : (Cond.selects "RelayHall" ⟨"RelayHall", "numbered", "(Ljava/lang/String;I)Ljava/lang/String;"⟩ ⟨"RelayHall", "numbered", "(Ljava/lang/String;I)Ljava/lang/String;"⟩) ∈ lw_G := x_gw (inT_0 _ (List.mem_of_getElem? (i := 47) (by decide +kernel))) rfl
theorem gw_48 : (Cond.selects "RelayHall" ⟨"RelayHall", "consumersOf", "(LRelayHall$Queue;)I"⟩ ⟨"RelayHall", "consumersOf", "(LRelayHall$Queue;)I"⟩) ∈ lw_G := x_gw (inT_0 _ (List.mem_of_getElem? (i := 48) (by decide +kernel))) rfl
theorem gw_49 : (Cond.selects "RelayHall" ⟨"RelayHall", "bind", "(LRelayHall$Channel;)V"⟩ ⟨"RelayHall", "bind", "(LRelayHall$Channel;)V"⟩) ∈ lw_G := x_gw (inT_0 _ (List.mem_of_getElem? (i := 49) (by decide +kernel))) rfl
theorem gw_50 : (Cond.selects "RelayHall" ⟨"RelayHall", "readQueueName", "(LRelayHall$Channel;)Ljava/lang/String;"⟩ ⟨"RelayHall", "readQueueName", "(LRelayHall$Channel;)Ljava/lang/String;"⟩) ∈ lw_G := x_gw (inT_0 _ (List.mem_of_getElem? (i := 50) (by decide +kernel))) rfl
theorem gw_51 : (Cond.selects "RelayHall" ⟨"RelayHall", "findBinding", "(LRelayHall$Binding;)I"⟩ ⟨"RelayHall", "findBinding", "(LRelayHall$Binding;)I"⟩) ∈ lw_G := x_gw (inT_0 _ (List.mem_of_getElem? (i := 51) (by decide +kernel))) rfl
theorem gw_52 : (Cond.selects "RelayHall" ⟨"RelayHall", "unbind", "(LRelayHall$Channel;)V"⟩ ⟨"RelayHall", "unbind", "(LRelayHall$Channel;)V"⟩) ∈ lw_G := x_gw (inT_0 _ (List.mem_of_getElem? (i := 52) (by decide +kernel))) rfl
theorem gw_53 : (Cond.selects "RelayHall" ⟨"RelayHall", "purge", "(LRelayHall$Channel;)V"⟩ ⟨"RelayHall", "purge", "(LRelayHall$Channel;)V"⟩) ∈ lw_G := x_gw (inT_0 _ (List.mem_of_getElem? (i := 53) (by decide +kernel))) rfl
theorem gw_54 : (Cond.selects "RelayHall" ⟨"RelayHall", "leave", "(LRelayHall$Message;Z)V"⟩ ⟨"RelayHall", "leave", "(LRelayHall$Message;Z)V"⟩) ∈ lw_G := x_gw (inT_0 _ (List.mem_of_getElem? (i := 54) (by decide +kernel))) rfl
theorem gw_55 : (Cond.selects "RelayHall" ⟨"RelayHall", "deleteQueue", "(LRelayHall$Channel;)V"⟩ ⟨"RelayHall", "deleteQueue", "(LRelayHall$Channel;)V"⟩) ∈ lw_G := x_gw (inT_0 _ (List.mem_of_getElem? (i := 55) (by decide +kernel))) rfl
theorem gw_56 : (Cond.selects "RelayHall" ⟨"RelayHall", "removeQueue", "(LRelayHall$Queue;)V"⟩ ⟨"RelayHall", "removeQueue", "(LRelayHall$Queue;)V"⟩) ∈ lw_G := x_gw (inT_0 _ (List.mem_of_getElem? (i := 56) (by decide +kernel))) rfl
theorem gw_57 : (Cond.selects "RelayHall" ⟨"RelayHall", "unbindAll", "(LRelayHall$Exchange;LRelayHall$Queue;)Z"⟩ ⟨"RelayHall", "unbindAll", "(LRelayHall$Exchange;LRelayHall$Queue;)Z"⟩) ∈ lw_G := x_gw (inT_0 _ (List.mem_of_getElem? (i := 57) (by decide +kernel))) rfl
theorem gw_58 : (Cond.selects "RelayHall" ⟨"RelayHall", "tellConsumers", "(LRelayHall$Queue;)V"⟩ ⟨"RelayHall", "tellConsumers", "(LRelayHall$Queue;)V"⟩) ∈ lw_G := x_gw (inT_0 _ (List.mem_of_getElem? (i := 58) (by decide +kernel))) rfl
theorem gw_59 : (Cond.selects "RelayHall" ⟨"RelayHall", "limit", "(LRelayHall$Channel;)V"⟩ ⟨"RelayHall", "limit", "(LRelayHall$Channel;)V"⟩) ∈ lw_G := x_gw (inT_0 _ (List.mem_of_getElem? (i := 59) (by decide +kernel))) rfl
theorem gw_60 : (Cond.selects "RelayHall" ⟨"RelayHall", "consume", "(LRelayHall$Channel;)V"⟩ ⟨"RelayHall", "consume", "(LRelayHall$Channel;)V"⟩) ∈ lw_G := x_gw (inT_0 _ (List.mem_of_getElem? (i := 60) (by decide +kernel))) rfl
theorem gw_61 : (Cond.selects "RelayHall" ⟨"RelayHall", "hasAlone", "(LRelayHall$Queue;)Z"⟩ ⟨"RelayHall", "hasAlone", "(LRelayHall$Queue;)Z"⟩) ∈ lw_G := x_gw (inT_0 _ (List.mem_of_getElem? (i := 61) (by decide +kernel))) rfl
theorem gw_62 : (Cond.selects "RelayHall" ⟨"RelayHall", "findConsumer", "(LRelayHall$Channel;Ljava/lang/String;)I"⟩ ⟨"RelayHall", "findConsumer", "(LRelayHall$Channel;Ljava/lang/String;)I"⟩) ∈ lw_G := x_gw (inT_0 _ (List.mem_of_getElem? (i := 62) (by decide +kernel))) rfl
theorem gw_63 : (Cond.selects "RelayHall" ⟨"RelayHall", "freeTag", "(LRelayHall$Channel;)Ljava/lang/String;"⟩ ⟨"RelayHall", "freeTag", "(LRelayHall$Channel;)Ljava/lang/String;"⟩) ∈ lw_G := x_gw (inT_0 _ (List.mem_of_getElem? (i := 63) (by decide +kernel))) rfl
theorem gw_64 : (Cond.selects "RelayHall" ⟨"RelayHall", "answerText", "(LRelayHall$Channel;ILjava/lang/String;)V"⟩ ⟨"RelayHall", "answerText", "(LRelayHall$Channel;ILjava/lang/String;)V"⟩) ∈ lw_G := x_gw (inT_0 _ (List.mem_of_getElem? (i := 64) (by decide +kernel))) rfl
theorem gw_65 : (Cond.selects "RelayHall" ⟨"RelayHall", "cancel", "(LRelayHall$Channel;)V"⟩ ⟨"RelayHall", "cancel", "(LRelayHall$Channel;)V"⟩) ∈ lw_G := x_gw (inT_0 _ (List.mem_of_getElem? (i := 65) (by decide +kernel))) rfl
theorem gw_66 : (Cond.selects "RelayHall" ⟨"RelayHall", "removeConsumer", "(I)V"⟩ ⟨"RelayHall", "removeConsumer", "(I)V"⟩) ∈ lw_G := x_gw (inT_0 _ (List.mem_of_getElem? (i := 66) (by decide +kernel))) rfl
theorem gw_67 : (Cond.selects "RelayHall" ⟨"RelayHall", "beginContent", "(LRelayHall$Channel;)V"⟩ ⟨"RelayHall", "beginContent", "(LRelayHall$Channel;)V"⟩) ∈ lw_G := x_gw (inT_0 _ (List.mem_of_getElem? (i := 67) (by decide +kernel))) rfl
theorem gw_68 : (Cond.selects "RelayHall" ⟨"RelayHall", "get", "(LRelayHall$Channel;)V"⟩ ⟨"RelayHall", "get", "(LRelayHall$Channel;)V"⟩) ∈ lw_G := x_gw (inT_0 _ (List.mem_of_getElem? (i := 68) (by decide +kernel))) rfl
theorem gw_69 : (Cond.selects "RelayHall" ⟨"RelayHall", "handOver", "(LRelayHall$Queue;LRelayHall$Channel;LRelayHall$Consumer;Z)LRelayHall$Message;"⟩ ⟨"RelayHall", "handOver", "(LRelayHall$Queue;LRelayHall$Channel;LRelayHall$Consumer;Z)LRelayHall$Message;"⟩) ∈ lw_G := x_gw (inT_0 _ (List.mem_of_getElem? (i := 69) (by decide +kernel))) rfl
theorem gw_70 : (Cond.selects "RelayHall" ⟨"RelayHall", "draftContent", "(LRelayHall$Channel;LRelayHall$Message;)V"⟩ ⟨"RelayHall", "draftContent", "(LRelayHall$Channel;LRelayHall$Message;)V"⟩) ∈ lw_G := x_gw (inT_0 _ (List.mem_of_getElem? (i := 70) (by decide +kernel))) rfl
theorem gw_71 : (Cond.selects "RelayHall" ⟨"RelayHall", "acknowledge", "(LRelayHall$Channel;)V"⟩ ⟨"RelayHall", "acknowledge", "(LRelayHall$Channel;)V"⟩) ∈ lw_G := x_gw (inT_0 _ (List.mem_of_getElem? (i := 71) (by decide +kernel))) rfl
theorem gw_72 : (Cond.selects "RelayHall" ⟨"RelayHall", "finishMarked", "(LRelayHall$Channel;II)V"⟩ ⟨"RelayHall", "finishMarked", "(LRelayHall$Channel;II)V"⟩) ∈ lw_G := x_gw (inT_0 _ (List.mem_of_getElem? (i := 72) (by decide +kernel))) rfl
theorem gw_73 : (Cond.selects "RelayHall" ⟨"RelayHall", "finish", "(LRelayHall$Channel;II)V"⟩ ⟨"RelayHall", "finish", "(LRelayHall$Channel;II)V"⟩) ∈ lw_G := x_gw (inT_0 _ (List.mem_of_getElem? (i := 73) (by decide +kernel))) rfl
theorem gw_74 : (Cond.selects "java/util/ArrayList" ⟨"java/util/ArrayList", "rangeCheckForAdd", "(I)V"⟩ ⟨"java/util/ArrayList", "rangeCheckForAdd", "(I)V"⟩) ∈ lw_G := x_gw (inT_0 _ (List.mem_of_getElem? (i := 74) (by decide +kernel))) rfl
theorem gw_75 : (Cond.selects "java/util/ArrayList" ⟨"java/util/ArrayList", "outOfBoundsMsg", "(I)Ljava/lang/String;"⟩ ⟨"java/util/ArrayList", "outOfBoundsMsg", "(I)Ljava/lang/String;"⟩) ∈ lw_G := x_gw (inT_0 _ (List.mem_of_getElem? (i := 75) (by decide +kernel))) rfl
theorem gw_76 : (Cond.selects "RelayHall" ⟨"RelayHall", "trim", "(LRelayHall$Queue;)V"⟩ ⟨"RelayHall", "trim", "(LRelayHall$Queue;)V"⟩) ∈ lw_G := x_gw (inT_0 _ (List.mem_of_getElem? (i := 76) (by decide +kernel))) rfl
theorem gw_77 : (Cond.selects "RelayHall" ⟨"RelayHall", "recover", "(LRelayHall$Channel;)V"⟩ ⟨"RelayHall", "recover", "(LRelayHall$Channel;)V"⟩) ∈ lw_G := x_gw (inT_0 _ (List.mem_of_getElem? (i := 77) (by decide +kernel))) rfl
theorem gw_78 : (Cond.selects "RelayHall" ⟨"RelayHall", "selectConfirms", "(LRelayHall$Channel;)V"⟩ ⟨"RelayHall", "selectConfirms", "(LRelayHall$Channel;)V"⟩) ∈ lw_G := x_gw (inT_0 _ (List.mem_of_getElem? (i := 78) (by decide +kernel))) rfl
theorem gw_79 : (Cond.selects "RelayHall" ⟨"RelayHall", "selectTransactions", "(LRelayHall$Channel;)V"⟩ ⟨"RelayHall", "selectTransactions", "(LRelayHall$Channel;)V"⟩) ∈ lw_G := x_gw (inT_0 _ (List.mem_of_getElem? (i := 79) (by decide +kernel))) rfl
theorem gw_80 : (Cond.selects "RelayHall" ⟨"RelayHall", "commit", "(LRelayHall$Channel;)V"⟩ ⟨"RelayHall", "commit", "(LRelayHall$Channel;)V"⟩) ∈ lw_G := x_gw (inT_0 _ (List.mem_of_getElem? (i := 80) (by decide +kernel))) rfl
theorem gw_81 : (Cond.selects "RelayHall" ⟨"RelayHall", "isFull", "()Z"⟩ ⟨"RelayHall", "isFull", "()Z"⟩) ∈ lw_G := x_gw (inT_0 _ (List.mem_of_getElem? (i := 81) (by decide +kernel))) rfl
theorem gw_82 : (Cond.selects "RelayHall" ⟨"RelayHall", "spread", "(LRelayHall$Message;)Z"⟩ ⟨"RelayHall", "spread", "(LRelayHall$Message;)Z"⟩) ∈ lw_G := x_gw (inT_0 _ (List.mem_of_getElem? (i := 82) (by decide +kernel))) rfl
theorem gw_83 : (Cond.selects "RelayHall" ⟨"RelayHall", "route", "(LRelayHall$Exchange;LRelayHall$Message;)V"⟩ ⟨"RelayHall", "route", "(LRelayHall$Exchange;LRelayHall$Message;)V"⟩) ∈ lw_G := x_gw (inT_0 _ (List.mem_of_getElem? (i := 83) (by decide +kernel))) rfl
theorem gw_84 : (Cond.selects "RelayHall$Binding" ⟨"RelayHall$Binding", "tableMatches", "(LRelayHall$Table;)Z"⟩ ⟨"RelayHall$Binding", "tableMatches", "(LRelayHall$Table;)Z"⟩) ∈ lw_G := x_gw (inT_0 _ (List.mem_of_getElem? (i := 84) (by decide +kernel))) rfl
theorem gw_85 : (Cond.selects "RelayHall" ⟨"RelayHall", "comeTo", "(LRelayHall$Queue;LRelayHall$Message;)LRelayHall$Message;"⟩ ⟨"RelayHall", "comeTo", "(LRelayHall$Queue;LRelayHall$Message;)LRelayHall$Message;"⟩) ∈ lw_G := x_gw (inT_0 _ (List.mem_of_getElem? (i := 85) (by decide +kernel))) rfl
theorem gw_86 : (Cond.selects "RelayHall" ⟨"RelayHall", "giveBack", "(LRelayHall$Channel;LRelayHall$Message;)V"⟩ ⟨"RelayHall", "giveBack", "(LRelayHall$Channel;LRelayHall$Message;)V"⟩) ∈ lw_G := x_gw (inT_0 _ (List.mem_of_getElem? (i := 86) (by decide +kernel))) rfl
theorem gw_87 : (Cond.selects "RelayHall" ⟨"RelayHall", "rollBack", "(LRelayHall$Channel;)V"⟩ ⟨"RelayHall", "rollBack", "(LRelayHall$Channel;)V"⟩) ∈ lw_G := x_gw (inT_0 _ (List.mem_of_getElem? (i := 87) (by decide +kernel))) rfl
theorem gw_88 : (Cond.selects "RelayHall" ⟨"RelayHall", "takeHeader", "(LRelayHall$Channel;)V"⟩ ⟨"RelayHall", "takeHeader", "(LRelayHall$Channel;)V"⟩) ∈ lw_G := x_gw (inT_0 _ (List.mem_of_getElem? (i := 88) (by decide +kernel))) rfl
theorem gw_89 : (Cond.selects "RelayHall" ⟨"RelayHall", "takeContent", "(LRelayHall$Channel;)V"⟩ ⟨"RelayHall", "takeContent", "(LRelayHall$Channel;)V"⟩) ∈ lw_G := x_gw (inT_0 _ (List.mem_of_getElem? (i := 89) (by decide +kernel))) rfl
theorem gw_90 : (Cond.selects "RelayHall" ⟨"RelayHall", "confirm", "(LRelayHall$Channel;Z)V"⟩ ⟨"RelayHall", "confirm", "(LRelayHall$Channel;Z)V"⟩) ∈ lw_G := x_gw (inT_0 _ (List.mem_of_getElem? (i := 90) (by decide +kernel))) rfl
theorem gw_91 : (Cond.selects "RelayHall" ⟨"RelayHall", "sendConfirm", "(LRelayHall$Channel;I)V"⟩ ⟨"RelayHall", "sendConfirm", "(LRelayHall$Channel;I)V"⟩) ∈ lw_G := x_gw (inT_0 _ (List.mem_of_getElem? (i := 91) (by decide +kernel))) rfl
theorem gw_92 : (Cond.selects "RelayHall" ⟨"RelayHall", "takeBody", "(LRelayHall$Channel;)V"⟩ ⟨"RelayHall", "takeBody", "(LRelayHall$Channel;)V"⟩) ∈ lw_G := x_gw (inT_0 _ (List.mem_of_getElem? (i := 92) (by decide +kernel))) rfl
theorem gw_93 : (Cond.selects "RelayHall" ⟨"RelayHall", "dispatch", "()V"⟩ ⟨"RelayHall", "dispatch", "()V"⟩) ∈ lw_G := x_gw (inT_0 _ (List.mem_of_getElem? (i := 93) (by decide +kernel))) rfl
theorem gw_94 : (Cond.selects "RelayHall" ⟨"RelayHall", "letLeave", "()V"⟩ ⟨"RelayHall", "letLeave", "()V"⟩) ∈ lw_G := x_gw (inT_0 _ (List.mem_of_getElem? (i := 94) (by decide +kernel))) rfl
theorem gw_95 : (Cond.selects "RelayHall" ⟨"RelayHall", "gone", "(LRelayHall$Channel;)V"⟩ ⟨"RelayHall", "gone", "(LRelayHall$Channel;)V"⟩) ∈ lw_G := x_gw (inT_0 _ (List.mem_of_getElem? (i := 95) (by decide +kernel))) rfl
theorem gw_96 : (Cond.selects "RelayHall" ⟨"RelayHall", "letLeaveWhole", "(LRelayHall$Connection;)V"⟩ ⟨"RelayHall", "letLeaveWhole", "(LRelayHall$Connection;)V"⟩) ∈ lw_G := x_gw (inT_0 _ (List.mem_of_getElem? (i := 96) (by decide +kernel))) rfl
theorem gw_97 : (Cond.selects "RelayHall" ⟨"RelayHall", "dispatchOne", "()Z"⟩ ⟨"RelayHall", "dispatchOne", "()Z"⟩) ∈ lw_G := x_gw (inT_0 _ (List.mem_of_getElem? (i := 97) (by decide +kernel))) rfl
theorem gw_98 : (Cond.selects "RelayHall" ⟨"RelayHall", "nextConsumer", "(LRelayHall$Queue;)LRelayHall$Consumer;"⟩ ⟨"RelayHall", "nextConsumer", "(LRelayHall$Queue;)LRelayHall$Consumer;"⟩) ∈ lw_G := x_gw (inT_0 _ (List.mem_of_getElem? (i := 98) (by decide +kernel))) rfl
theorem gw_99 : (Cond.selects "RelayHall" ⟨"RelayHall", "deliver", "(LRelayHall$Queue;LRelayHall$Consumer;)V"⟩ ⟨"RelayHall", "deliver", "(LRelayHall$Queue;LRelayHall$Consumer;)V"⟩) ∈ lw_G := x_gw (inT_0 _ (List.mem_of_getElem? (i := 99) (by decide +kernel))) rfl
theorem gw_100 : (Cond.selects "RelayHall" ⟨"RelayHall", "consumersOn", "(LRelayHall$Channel;)I"⟩ ⟨"RelayHall", "consumersOn", "(LRelayHall$Channel;)I"⟩) ∈ lw_G := x_gw (inT_0 _ (List.mem_of_getElem? (i := 100) (by decide +kernel))) rfl
theorem gw_101 : (Cond.selects "RelayHall" ⟨"RelayHall", "bindingsTo", "(LRelayHall$Queue;)I"⟩ ⟨"RelayHall", "bindingsTo", "(LRelayHall$Queue;)I"⟩) ∈ lw_G := x_gw (inT_0 _ (List.mem_of_getElem? (i := 101) (by decide +kernel))) rfl
theorem gw_102 : (Cond.selects "RelayHall$Log" ⟨"RelayHall$Log", "remove", "(LRelayHall$Durable;)V"⟩ ⟨"RelayHall$Log", "remove", "(LRelayHall$Durable;)V"⟩) ∈ lw_G := x_gw (inT_0 _ (List.mem_of_getElem? (i := 102) (by decide +kernel))) rfl
theorem gw_103 : (Cond.selects "RelayHall" ⟨"RelayHall", "sendConfirmsDue", "()V"⟩ ⟨"RelayHall", "sendConfirmsDue", "()V"⟩) ∈ lw_G := x_gw (inT_0 _ (List.mem_of_getElem? (i := 103) (by decide +kernel))) rfl
theorem gw_104 : (Cond.selects "RelayHall" ⟨"RelayHall", "expire", "()V"⟩ ⟨"RelayHall", "expire", "()V"⟩) ∈ lw_G := x_gw (inT_0 _ (List.mem_of_getElem? (i := 104) (by decide +kernel))) rfl
theorem gw_105 : (Cond.selects "RelayHall" ⟨"RelayHall", "watch", "(LRelayHall$Connection;)V"⟩ ⟨"RelayHall", "watch", "(LRelayHall$Connection;)V"⟩) ∈ lw_G := x_gw (inT_0 _ (List.mem_of_getElem? (i := 105) (by decide +kernel))) rfl
theorem gw_106 : (Cond.selects "RelayHall" ⟨"RelayHall", "forgetAll", "()V"⟩ ⟨"RelayHall", "forgetAll", "()V"⟩) ∈ lw_G := x_gw (inT_0 _ (List.mem_of_getElem? (i := 106) (by decide +kernel))) rfl
theorem gw_107 : (Cond.selects "RelayHall" ⟨"RelayHall", "restore", "()V"⟩ ⟨"RelayHall", "restore", "()V"⟩) ∈ lw_G := x_gw (inT_0 _ (List.mem_of_getElem? (i := 107) (by decide +kernel))) rfl
theorem gw_108 : (Cond.selects "RelayHallModel" ⟨"RelayHallModel", "takeIn", "(LRelayHallModel$Connection;)V"⟩ ⟨"RelayHallModel", "takeIn", "(LRelayHallModel$Connection;)V"⟩) ∈ lw_G := x_gw (inT_0 _ (List.mem_of_getElem? (i := 108) (by decide +kernel))) rfl
theorem gw_109 : (Cond.selects "RelayHallModel" ⟨"RelayHallModel", "takesOne", "(LRelayHallModel$Connection;)Z"⟩ ⟨"RelayHallModel", "takesOne", "(LRelayHallModel$Connection;)Z"⟩) ∈ lw_G := x_gw (inT_0 _ (List.mem_of_getElem? (i := 109) (by decide +kernel))) rfl
theorem gw_110 : (Cond.selects "RelayHallModel" ⟨"RelayHallModel", "greet", "(LRelayHallModel$Connection;)V"⟩ ⟨"RelayHallModel", "greet", "(LRelayHallModel$Connection;)V"⟩) ∈ lw_G := x_gw (inT_0 _ (List.mem_of_getElem? (i := 110) (by decide +kernel))) rfl
theorem gw_111 : (Cond.selects "RelayHallModel" ⟨"RelayHallModel", "drop", "(LRelayHallModel$Connection;I)V"⟩ ⟨"RelayHallModel", "drop", "(LRelayHallModel$Connection;I)V"⟩) ∈ lw_G := x_gw (inT_0 _ (List.mem_of_getElem? (i := 111) (by decide +kernel))) rfl
theorem gw_112 : (Cond.selects "RelayHallModel" ⟨"RelayHallModel", "beginMethod", "(III)V"⟩ ⟨"RelayHallModel", "beginMethod", "(III)V"⟩) ∈ lw_G := x_gw (inT_0 _ (List.mem_of_getElem? (i := 112) (by decide +kernel))) rfl
theorem gw_113 : (Cond.selects "RelayHallModel" ⟨"RelayHallModel", "beginFrame", "(II)V"⟩ ⟨"RelayHallModel", "beginFrame", "(II)V"⟩) ∈ lw_G := x_gw (inT_0 _ (List.mem_of_getElem? (i := 113) (by decide +kernel))) rfl
theorem gw_114 : (Cond.selects "RelayHallModel" ⟨"RelayHallModel", "put", "(I)V"⟩ ⟨"RelayHallModel", "put", "(I)V"⟩) ∈ lw_G := x_gw (inT_0 _ (List.mem_of_getElem? (i := 114) (by decide +kernel))) rfl
theorem gw_115 : (Cond.selects "RelayHallModel" ⟨"RelayHallModel", "put16", "(I)V"⟩ ⟨"RelayHallModel", "put16", "(I)V"⟩) ∈ lw_G := x_gw (inT_0 _ (List.mem_of_getElem? (i := 115) (by decide +kernel))) rfl
theorem gw_116 : (Cond.selects "RelayHallModel" ⟨"RelayHallModel", "put32", "(I)V"⟩ ⟨"RelayHallModel", "put32", "(I)V"⟩) ∈ lw_G := x_gw (inT_0 _ (List.mem_of_getElem? (i := 116) (by decide +kernel))) rfl
theorem gw_117 : (Cond.selects "RelayHallModel" ⟨"RelayHallModel", "goFrame", "(LRelayHallModel$Connection;)V"⟩ ⟨"RelayHallModel", "goFrame", "(LRelayHallModel$Connection;)V"⟩) ∈ lw_G := x_gw (inT_0 _ (List.mem_of_getElem? (i := 117) (by decide +kernel))) rfl
theorem gw_118 : (Cond.selects "RelayHallModel" ⟨"RelayHallModel", "endFrame", "()V"⟩ ⟨"RelayHallModel", "endFrame", "()V"⟩) ∈ lw_G := x_gw (inT_0 _ (List.mem_of_getElem? (i := 118) (by decide +kernel))) rfl
theorem gw_119 : (Cond.selects "RelayHallModel" ⟨"RelayHallModel", "go", "(LRelayHallModel$Connection;)V"⟩ ⟨"RelayHallModel", "go", "(LRelayHallModel$Connection;)V"⟩) ∈ lw_G := x_gw (inT_0 _ (List.mem_of_getElem? (i := 119) (by decide +kernel))) rfl
theorem gw_120 : (Cond.selects "RelayHallModel" ⟨"RelayHallModel", "close", "(LRelayHallModel$Connection;)V"⟩ ⟨"RelayHallModel", "close", "(LRelayHallModel$Connection;)V"⟩) ∈ lw_G := x_gw (inT_0 _ (List.mem_of_getElem? (i := 120) (by decide +kernel))) rfl
theorem gw_121 : (Cond.selects "RelayHallModel" ⟨"RelayHallModel", "end", "(LRelayHallModel$Connection;)V"⟩ ⟨"RelayHallModel", "end", "(LRelayHallModel$Connection;)V"⟩) ∈ lw_G := x_gw (inT_0 _ (List.mem_of_getElem? (i := 121) (by decide +kernel))) rfl
theorem gw_122 : (Cond.selects "RelayHallModel" ⟨"RelayHallModel", "gone", "(LRelayHallModel$Channel;)V"⟩ ⟨"RelayHallModel", "gone", "(LRelayHallModel$Channel;)V"⟩) ∈ lw_G := x_gw (inT_0 _ (List.mem_of_getElem? (i := 122) (by decide +kernel))) rfl
theorem gw_123 : (Cond.selects "RelayHallModel" ⟨"RelayHallModel", "cancel", "(LRelayHallModel$Consumer;)V"⟩ ⟨"RelayHallModel", "cancel", "(LRelayHallModel$Consumer;)V"⟩) ∈ lw_G := x_gw (inT_0 _ (List.mem_of_getElem? (i := 123) (by decide +kernel))) rfl
theorem gw_124 : (Cond.selects "RelayHallModel" ⟨"RelayHallModel", "takeOut", "(LRelayHallModel$Consumer;)V"⟩ ⟨"RelayHallModel", "takeOut", "(LRelayHallModel$Consumer;)V"⟩) ∈ lw_G := x_gw (inT_0 _ (List.mem_of_getElem? (i := 124) (by decide +kernel))) rfl
theorem gw_125 : (Cond.selects "RelayHallModel" ⟨"RelayHallModel", "consumersOf", "(LRelayHallModel$Queue;)I"⟩ ⟨"RelayHallModel", "consumersOf", "(LRelayHallModel$Queue;)I"⟩) ∈ lw_G := x_gw (inT_0 _ (List.mem_of_getElem? (i := 125) (by decide +kernel))) rfl
theorem gw_126 : (Cond.selects "RelayHallModel" ⟨"RelayHallModel", "delete", "(LRelayHallModel$Queue;)V"⟩ ⟨"RelayHallModel", "delete", "(LRelayHallModel$Queue;)V"⟩) ∈ lw_G := x_gw (inT_0 _ (List.mem_of_getElem? (i := 126) (by decide +kernel))) rfl
theorem gw_127 : (Cond.selects "RelayHallModel" ⟨"RelayHallModel", "tell", "(ILRelayHallModel$Exchange;LRelayHallModel$Queue;LRelayHallModel$Binding;LRelayHallModel$Entry;)V"⟩ ⟨"RelayHallModel", "tell", "(ILRelayHallModel$Exchange;LRelayHallModel$Queue;LRelayHallModel$Binding;LRelayHallModel$Entry;)V"⟩) ∈ lw_G := x_gw (inT_0 _ (List.mem_of_getElem? (i := 127) (by decide +kernel))) rfl
theorem gw_128 : (Cond.selects "RelayHallModel" ⟨"RelayHallModel", "bindingsOf", "(LRelayHallModel$Exchange;LRelayHallModel$Queue;)I"⟩ ⟨"RelayHallModel", "bindingsOf", "(LRelayHallModel$Exchange;LRelayHallModel$Queue;)I"⟩) ∈ lw_G := x_gw (inT_0 _ (List.mem_of_getElem? (i := 128) (by decide +kernel))) rfl
theorem gw_129 : (Cond.selects "RelayHallModel" ⟨"RelayHallModel", "takeBinding", "(I)V"⟩ ⟨"RelayHallModel", "takeBinding", "(I)V"⟩) ∈ lw_G := x_gw (inT_0 _ (List.mem_of_getElem? (i := 129) (by decide +kernel))) rfl
theorem gw_130 : (Cond.selects "RelayHallModel" ⟨"RelayHallModel", "delete", "(LRelayHallModel$Exchange;)V"⟩ ⟨"RelayHallModel", "delete", "(LRelayHallModel$Exchange;)V"⟩) ∈ lw_G := x_gw (inT_0 _ (List.mem_of_getElem? (i := 130) (by decide +kernel))) rfl
theorem gw_131 : (Cond.selects "RelayHallModel" ⟨"RelayHallModel", "sendCancel", "(LRelayHallModel$Consumer;)V"⟩ ⟨"RelayHallModel", "sendCancel", "(LRelayHallModel$Consumer;)V"⟩) ∈ lw_G := x_gw (inT_0 _ (List.mem_of_getElem? (i := 131) (by decide +kernel))) rfl
theorem gw_132 : (Cond.selects "RelayHallModel" ⟨"RelayHallModel", "putShort", "([B)V"⟩ ⟨"RelayHallModel", "putShort", "([B)V"⟩) ∈ lw_G := x_gw (inT_0 _ (List.mem_of_getElem? (i := 132) (by decide +kernel))) rfl
theorem gw_133 : (Cond.selects "RelayHallModel" ⟨"RelayHallModel", "putBytes", "([B)V"⟩ ⟨"RelayHallModel", "putBytes", "([B)V"⟩) ∈ lw_G := x_gw (inT_0 _ (List.mem_of_getElem? (i := 133) (by decide +kernel))) rfl
theorem gw_134 : (Cond.selects "RelayHallModel" ⟨"RelayHallModel", "take", "(LRelayHallModel$Channel;I)LRelayHallModel$Sent;"⟩ ⟨"RelayHallModel", "take", "(LRelayHallModel$Channel;I)LRelayHallModel$Sent;"⟩) ∈ lw_G := x_gw (inT_0 _ (List.mem_of_getElem? (i := 134) (by decide +kernel))) rfl
theorem gw_135 : (Cond.selects "RelayHallModel" ⟨"RelayHallModel", "requeue", "(LRelayHallModel$Entry;)V"⟩ ⟨"RelayHallModel", "requeue", "(LRelayHallModel$Entry;)V"⟩) ∈ lw_G := x_gw (inT_0 _ (List.mem_of_getElem? (i := 135) (by decide +kernel))) rfl
theorem gw_136 : (Cond.selects "RelayHallModel" ⟨"RelayHallModel", "shorten", "(LRelayHallModel$Queue;)V"⟩ ⟨"RelayHallModel", "shorten", "(LRelayHallModel$Queue;)V"⟩) ∈ lw_G := x_gw (inT_0 _ (List.mem_of_getElem? (i := 136) (by decide +kernel))) rfl
theorem gw_137 : (Cond.selects "RelayHallModel" ⟨"RelayHallModel", "ready", "(LRelayHallModel$Queue;)I"⟩ ⟨"RelayHallModel", "ready", "(LRelayHallModel$Queue;)I"⟩) ∈ lw_G := x_gw (inT_0 _ (List.mem_of_getElem? (i := 137) (by decide +kernel))) rfl
theorem gw_138 : (Cond.selects "RelayHallModel" ⟨"RelayHallModel", "first", "(LRelayHallModel$Queue;)LRelayHallModel$Entry;"⟩ ⟨"RelayHallModel", "first", "(LRelayHallModel$Queue;)LRelayHallModel$Entry;"⟩) ∈ lw_G := x_gw (inT_0 _ (List.mem_of_getElem? (i := 138) (by decide +kernel))) rfl
theorem gw_139 : (Cond.selects "RelayHallModel" ⟨"RelayHallModel", "dies", "(LRelayHallModel$Entry;)V"⟩ ⟨"RelayHallModel", "dies", "(LRelayHallModel$Entry;)V"⟩) ∈ lw_G := x_gw (inT_0 _ (List.mem_of_getElem? (i := 139) (by decide +kernel))) rfl
theorem gw_140 : (Cond.selects "RelayHallModel" ⟨"RelayHallModel", "leaves", "(LRelayHallModel$Entry;)V"⟩ ⟨"RelayHallModel", "leaves", "(LRelayHallModel$Entry;)V"⟩) ∈ lw_G := x_gw (inT_0 _ (List.mem_of_getElem? (i := 140) (by decide +kernel))) rfl
theorem gw_141 : (Cond.selects "RelayHallModel" ⟨"RelayHallModel", "recorded", "(LRelayHallModel$Queue;LRelayHallModel$Content;)Z"⟩ ⟨"RelayHallModel", "recorded", "(LRelayHallModel$Queue;LRelayHallModel$Content;)Z"⟩) ∈ lw_G := x_gw (inT_0 _ (List.mem_of_getElem? (i := 141) (by decide +kernel))) rfl
theorem gw_142 : (Cond.selects "RelayHallModel" ⟨"RelayHallModel", "noFrame", "(LRelayHallModel$Connection;)V"⟩ ⟨"RelayHallModel", "noFrame", "(LRelayHallModel$Connection;)V"⟩) ∈ lw_G := x_gw (inT_0 _ (List.mem_of_getElem? (i := 142) (by decide +kernel))) rfl
theorem gw_143 : (Cond.selects "RelayHallModel" ⟨"RelayHallModel", "hard", "(LRelayHallModel$Connection;III)V"⟩ ⟨"RelayHallModel", "hard", "(LRelayHallModel$Connection;III)V"⟩) ∈ lw_G := x_gw (inT_0 _ (List.mem_of_getElem? (i := 143) (by decide +kernel))) rfl
theorem gw_144 : (Cond.selects "RelayHallModel" ⟨"RelayHallModel", "putClose", "(IIIIII)V"⟩ ⟨"RelayHallModel", "putClose", "(IIIIII)V"⟩) ∈ lw_G := x_gw (inT_0 _ (List.mem_of_getElem? (i := 144) (by decide +kernel))) rfl
theorem gw_145 : (Cond.selects "RelayHallModel" ⟨"RelayHallModel", "dispatch", "()V"⟩ ⟨"RelayHallModel", "dispatch", "()V"⟩) ∈ lw_G := x_gw (inT_0 _ (List.mem_of_getElem? (i := 145) (by decide +kernel))) rfl
theorem gw_146 : (Cond.selects "RelayHallModel" ⟨"RelayHallModel", "dispatchOne", "()Z"⟩ ⟨"RelayHallModel", "dispatchOne", "()Z"⟩) ∈ lw_G := x_gw (inT_0 _ (List.mem_of_getElem? (i := 146) (by decide +kernel))) rfl
theorem gw_147 : (Cond.selects "RelayHallModel" ⟨"RelayHallModel", "bury", "()V"⟩ ⟨"RelayHallModel", "bury", "()V"⟩) ∈ lw_G := x_gw (inT_0 _ (List.mem_of_getElem? (i := 147) (by decide +kernel))) rfl
theorem gw_148 : (Cond.selects "RelayHallModel" ⟨"RelayHallModel", "exchange", "([B)LRelayHallModel$Exchange;"⟩ ⟨"RelayHallModel", "exchange", "([B)LRelayHallModel$Exchange;"⟩) ∈ lw_G := x_gw (inT_0 _ (List.mem_of_getElem? (i := 148) (by decide +kernel))) rfl
theorem gw_149 : (Cond.selects "RelayHallModel" ⟨"RelayHallModel", "full", "()Z"⟩ ⟨"RelayHallModel", "full", "()Z"⟩) ∈ lw_G := x_gw (inT_0 _ (List.mem_of_getElem? (i := 149) (by decide +kernel))) rfl
theorem gw_150 : (Cond.selects "RelayHallModel" ⟨"RelayHallModel", "route", "(LRelayHallModel$Exchange;[BLRelayHallModel$Table;)I"⟩ ⟨"RelayHallModel", "route", "(LRelayHallModel$Exchange;[BLRelayHallModel$Table;)I"⟩) ∈ lw_G := x_gw (inT_0 _ (List.mem_of_getElem? (i := 150) (by decide +kernel))) rfl
theorem gw_151 : (Cond.selects "RelayHallModel" ⟨"RelayHallModel", "queue", "([B)LRelayHallModel$Queue;"⟩ ⟨"RelayHallModel", "queue", "([B)LRelayHallModel$Queue;"⟩) ∈ lw_G := x_gw (inT_0 _ (List.mem_of_getElem? (i := 151) (by decide +kernel))) rfl
theorem gw_152 : (Cond.selects "RelayHallModel" ⟨"RelayHallModel", "matches", "(LRelayHallModel$Binding;[BLRelayHallModel$Table;)Z"⟩ ⟨"RelayHallModel", "matches", "(LRelayHallModel$Binding;[BLRelayHallModel$Table;)Z"⟩) ∈ lw_G := x_gw (inT_0 _ (List.mem_of_getElem? (i := 152) (by decide +kernel))) rfl
theorem gw_153 : (Cond.selects "RelayHallModel" ⟨"RelayHallModel", "topic", "([B[B)Z"⟩ ⟨"RelayHallModel", "topic", "([B[B)Z"⟩) ∈ lw_G := x_gw (inT_0 _ (List.mem_of_getElem? (i := 153) (by decide +kernel))) rfl
theorem gw_154 : (Cond.selects "RelayHallModel" ⟨"RelayHallModel", "isSign", "([BII)Z"⟩ ⟨"RelayHallModel", "isSign", "([BII)Z"⟩) ∈ lw_G := x_gw (inT_0 _ (List.mem_of_getElem? (i := 154) (by decide +kernel))) rfl
theorem gw_155 : (Cond.selects "RelayHallModel" ⟨"RelayHallModel", "sameWord", "([BI[BI)Z"⟩ ⟨"RelayHallModel", "sameWord", "([BI[BI)Z"⟩) ∈ lw_G := x_gw (inT_0 _ (List.mem_of_getElem? (i := 155) (by decide +kernel))) rfl
theorem gw_156 : (Cond.selects "RelayHallModel" ⟨"RelayHallModel", "comes", "(LRelayHallModel$Queue;LRelayHallModel$Content;[B[BJI)V"⟩ ⟨"RelayHallModel", "comes", "(LRelayHallModel$Queue;LRelayHallModel$Content;[B[BJI)V"⟩) ∈ lw_G := x_gw (inT_0 _ (List.mem_of_getElem? (i := 156) (by decide +kernel))) rfl
theorem gw_157 : (Cond.selects "RelayHallModel" ⟨"RelayHallModel", "nextOf", "(LRelayHallModel$Queue;)LRelayHallModel$Consumer;"⟩ ⟨"RelayHallModel", "nextOf", "(LRelayHallModel$Queue;)LRelayHallModel$Consumer;"⟩) ∈ lw_G := x_gw (inT_0 _ (List.mem_of_getElem? (i := 157) (by decide +kernel))) rfl
theorem gw_158 : (Cond.selects "RelayHallModel" ⟨"RelayHallModel", "credit", "(LRelayHallModel$Consumer;)Z"⟩ ⟨"RelayHallModel", "credit", "(LRelayHallModel$Consumer;)Z"⟩) ∈ lw_G := x_gw (inT_0 _ (List.mem_of_getElem? (i := 158) (by decide +kernel))) rfl
theorem gw_159 : (Cond.selects "RelayHallModel" ⟨"RelayHallModel", "unackedOf", "(LRelayHallModel$Channel;LRelayHallModel$Consumer;)I"⟩ ⟨"RelayHallModel", "unackedOf", "(LRelayHallModel$Channel;LRelayHallModel$Consumer;)I"⟩) ∈ lw_G := x_gw (inT_0 _ (List.mem_of_getElem? (i := 159) (by decide +kernel))) rfl
theorem gw_160 : (Cond.selects "RelayHallModel" ⟨"RelayHallModel", "deliver", "(LRelayHallModel$Queue;LRelayHallModel$Consumer;)V"⟩ ⟨"RelayHallModel", "deliver", "(LRelayHallModel$Queue;LRelayHallModel$Consumer;)V"⟩) ∈ lw_G := x_gw (inT_0 _ (List.mem_of_getElem? (i := 160) (by decide +kernel))) rfl
theorem gw_161 : (Cond.selects "RelayHallModel" ⟨"RelayHallModel", "hand", "(LRelayHallModel$Channel;LRelayHallModel$Entry;LRelayHallModel$Consumer;Z)I"⟩ ⟨"RelayHallModel", "hand", "(LRelayHallModel$Channel;LRelayHallModel$Entry;LRelayHallModel$Consumer;Z)I"⟩) ∈ lw_G := x_gw (inT_0 _ (List.mem_of_getElem? (i := 161) (by decide +kernel))) rfl
theorem gw_162 : (Cond.selects "RelayHallModel" ⟨"RelayHallModel", "putContent", "(ILRelayHallModel$Content;J)V"⟩ ⟨"RelayHallModel", "putContent", "(ILRelayHallModel$Content;J)V"⟩) ∈ lw_G := x_gw (inT_0 _ (List.mem_of_getElem? (i := 162) (by decide +kernel))) rfl
theorem gw_163 : (Cond.selects "RelayHallModel" ⟨"RelayHallModel", "readHead", "(I)V"⟩ ⟨"RelayHallModel", "readHead", "(I)V"⟩) ∈ lw_G := x_gw (inT_0 _ (List.mem_of_getElem? (i := 163) (by decide +kernel))) rfl
theorem gw_164 : (Cond.selects "RelayHallModel" ⟨"RelayHallModel", "u16", "()I"⟩ ⟨"RelayHallModel", "u16", "()I"⟩) ∈ lw_G := x_gw (inT_0 _ (List.mem_of_getElem? (i := 164) (by decide +kernel))) rfl
theorem gw_165 : (Cond.selects "RelayHallModel" ⟨"RelayHallModel", "u8", "()I"⟩ ⟨"RelayHallModel", "u8", "()I"⟩) ∈ lw_G := x_gw (inT_0 _ (List.mem_of_getElem? (i := 165) (by decide +kernel))) rfl
theorem gw_166 : (Cond.selects "RelayHallModel" ⟨"RelayHallModel", "onOpen", "(LRelayHallModel$Connection;II)V"⟩ ⟨"RelayHallModel", "onOpen", "(LRelayHallModel$Connection;II)V"⟩) ∈ lw_G := x_gw (inT_0 _ (List.mem_of_getElem? (i := 166) (by decide +kernel))) rfl
theorem gw_167 : (Cond.selects "RelayHallModel" ⟨"RelayHallModel", "simple", "(LRelayHallModel$Connection;III)V"⟩ ⟨"RelayHallModel", "simple", "(LRelayHallModel$Connection;III)V"⟩) ∈ lw_G := x_gw (inT_0 _ (List.mem_of_getElem? (i := 167) (by decide +kernel))) rfl
theorem gw_168 : (Cond.selects "RelayHallModel" ⟨"RelayHallModel", "onConnection", "(LRelayHallModel$Connection;)V"⟩ ⟨"RelayHallModel", "onConnection", "(LRelayHallModel$Connection;)V"⟩) ∈ lw_G := x_gw (inT_0 _ (List.mem_of_getElem? (i := 168) (by decide +kernel))) rfl
theorem gw_169 : (Cond.selects "RelayHallModel" ⟨"RelayHallModel", "closeArguments", "()V"⟩ ⟨"RelayHallModel", "closeArguments", "()V"⟩) ∈ lw_G := x_gw (inT_0 _ (List.mem_of_getElem? (i := 169) (by decide +kernel))) rfl
theorem gw_170 : (Cond.selects "RelayHallModel" ⟨"RelayHallModel", "shortText", "()[B"⟩ ⟨"RelayHallModel", "shortText", "()[B"⟩) ∈ lw_G := x_gw (inT_0 _ (List.mem_of_getElem? (i := 170) (by decide +kernel))) rfl
theorem gw_171 : (Cond.selects "RelayHallModel" ⟨"RelayHallModel", "bytes", "(I)[B"⟩ ⟨"RelayHallModel", "bytes", "(I)[B"⟩) ∈ lw_G := x_gw (inT_0 _ (List.mem_of_getElem? (i := 171) (by decide +kernel))) rfl
theorem gw_172 : (Cond.selects "RelayHallModel" ⟨"RelayHallModel", "whole", "()Z"⟩ ⟨"RelayHallModel", "whole", "()Z"⟩) ∈ lw_G := x_gw (inT_0 _ (List.mem_of_getElem? (i := 172) (by decide +kernel))) rfl
theorem gw_173 : (Cond.selects "RelayHallModel" ⟨"RelayHallModel", "onChannel", "(LRelayHallModel$Connection;LRelayHallModel$Channel;)V"⟩ ⟨"RelayHallModel", "onChannel", "(LRelayHallModel$Connection;LRelayHallModel$Channel;)V"⟩) ∈ lw_G := x_gw (inT_0 _ (List.mem_of_getElem? (i := 173) (by decide +kernel))) rfl
theorem gw_174 : (Cond.selects "RelayHallModel" ⟨"RelayHallModel", "isTold", "(II)Z"⟩ ⟨"RelayHallModel", "isTold", "(II)Z"⟩) ∈ lw_G := x_gw (inT_0 _ (List.mem_of_getElem? (i := 174) (by decide +kernel))) rfl
theorem gw_175 : (Cond.selects "RelayHallModel" ⟨"RelayHallModel", "wrong", "(LRelayHallModel$Channel;)Z"⟩ ⟨"RelayHallModel", "wrong", "(LRelayHallModel$Channel;)Z"⟩) ∈ lw_G := x_gw (inT_0 _ (List.mem_of_getElem? (i := 175) (by decide +kernel))) rfl
theorem gw_176 : (Cond.selects "RelayHallModel" ⟨"RelayHallModel", "opens", "(LRelayHallModel$Channel;)V"⟩ ⟨"RelayHallModel", "opens", "(LRelayHallModel$Channel;)V"⟩) ∈ lw_G := x_gw (inT_0 _ (List.mem_of_getElem? (i := 176) (by decide +kernel))) rfl
theorem gw_177 : (Cond.selects "RelayHallModel" ⟨"RelayHallModel", "flow", "(LRelayHallModel$Channel;)V"⟩ ⟨"RelayHallModel", "flow", "(LRelayHallModel$Channel;)V"⟩) ∈ lw_G := x_gw (inT_0 _ (List.mem_of_getElem? (i := 177) (by decide +kernel))) rfl
theorem gw_178 : (Cond.selects "RelayHallModel" ⟨"RelayHallModel", "closesChannel", "(LRelayHallModel$Channel;)V"⟩ ⟨"RelayHallModel", "closesChannel", "(LRelayHallModel$Channel;)V"⟩) ∈ lw_G := x_gw (inT_0 _ (List.mem_of_getElem? (i := 178) (by decide +kernel))) rfl
theorem gw_179 : (Cond.selects "RelayHallModel" ⟨"RelayHallModel", "declareExchange", "(LRelayHallModel$Channel;)V"⟩ ⟨"RelayHallModel", "declareExchange", "(LRelayHallModel$Channel;)V"⟩) ∈ lw_G := x_gw (inT_0 _ (List.mem_of_getElem? (i := 179) (by decide +kernel))) rfl
theorem gw_180 : (Cond.selects "RelayHallModel" ⟨"RelayHallModel", "table", "()LRelayHallModel$Table;"⟩ ⟨"RelayHallModel", "table", "()LRelayHallModel$Table;"⟩) ∈ lw_G := x_gw (inT_0 _ (List.mem_of_getElem? (i := 180) (by decide +kernel))) rfl
theorem gw_181 : (Cond.selects "RelayHallModel" ⟨"RelayHallModel", "u32", "()I"⟩ ⟨"RelayHallModel", "u32", "()I"⟩) ∈ lw_G := x_gw (inT_0 _ (List.mem_of_getElem? (i := 181) (by decide +kernel))) rfl
theorem gw_182 : (Cond.selects "RelayHallModel" ⟨"RelayHallModel", "longText", "()[B"⟩ ⟨"RelayHallModel", "longText", "()[B"⟩) ∈ lw_G := x_gw (inT_0 _ (List.mem_of_getElem? (i := 182) (by decide +kernel))) rfl
theorem gw_183 : (Cond.selects "RelayHallModel" ⟨"RelayHallModel", "soft", "(LRelayHallModel$Channel;I)V"⟩ ⟨"RelayHallModel", "soft", "(LRelayHallModel$Channel;I)V"⟩) ∈ lw_G := x_gw (inT_0 _ (List.mem_of_getElem? (i := 183) (by decide +kernel))) rfl
theorem gw_184 : (Cond.selects "RelayHallModel" ⟨"RelayHallModel", "softAs", "(LRelayHallModel$Channel;III)V"⟩ ⟨"RelayHallModel", "softAs", "(LRelayHallModel$Channel;III)V"⟩) ∈ lw_G := x_gw (inT_0 _ (List.mem_of_getElem? (i := 184) (by decide +kernel))) rfl
theorem gw_185 : (Cond.selects "RelayHallModel" ⟨"RelayHallModel", "makesExchange", "(LRelayHallModel$Channel;LRelayHallModel$Exchange;[BIILRelayHallModel$Table;)Z"⟩ ⟨"RelayHallModel", "makesExchange", "(LRelayHallModel$Channel;LRelayHallModel$Exchange;[BIILRelayHallModel$Table;)Z"⟩) ∈ lw_G := x_gw (inT_0 _ (List.mem_of_getElem? (i := 185) (by decide +kernel))) rfl
theorem gw_186 : (Cond.selects "RelayHallModel" ⟨"RelayHallModel", "deleteExchange", "(LRelayHallModel$Channel;)V"⟩ ⟨"RelayHallModel", "deleteExchange", "(LRelayHallModel$Channel;)V"⟩) ∈ lw_G := x_gw (inT_0 _ (List.mem_of_getElem? (i := 186) (by decide +kernel))) rfl
theorem gw_187 : (Cond.selects "RelayHallModel" ⟨"RelayHallModel", "onQueue", "(LRelayHallModel$Channel;)V"⟩ ⟨"RelayHallModel", "onQueue", "(LRelayHallModel$Channel;)V"⟩) ∈ lw_G := x_gw (inT_0 _ (List.mem_of_getElem? (i := 187) (by decide +kernel))) rfl
theorem gw_188 : (Cond.selects "RelayHallModel" ⟨"RelayHallModel", "declareQueue", "(LRelayHallModel$Channel;)V"⟩ ⟨"RelayHallModel", "declareQueue", "(LRelayHallModel$Channel;)V"⟩) ∈ lw_G := x_gw (inT_0 _ (List.mem_of_getElem? (i := 188) (by decide +kernel))) rfl
theorem gw_189 : (Cond.selects "RelayHallModel" ⟨"RelayHallModel", "passive", "(LRelayHallModel$Channel;LRelayHallModel$Queue;)LRelayHallModel$Queue;"⟩ ⟨"RelayHallModel", "passive", "(LRelayHallModel$Channel;LRelayHallModel$Queue;)LRelayHallModel$Queue;"⟩) ∈ lw_G := x_gw (inT_0 _ (List.mem_of_getElem? (i := 189) (by decide +kernel))) rfl
theorem gw_190 : (Cond.selects "RelayHallModel" ⟨"RelayHallModel", "drafted", "(LRelayHallModel$Table;)LRelayHallModel$Queue;"⟩ ⟨"RelayHallModel", "drafted", "(LRelayHallModel$Table;)LRelayHallModel$Queue;"⟩) ∈ lw_G := x_gw (inT_0 _ (List.mem_of_getElem? (i := 190) (by decide +kernel))) rfl
theorem gw_191 : (Cond.selects "RelayHallModel" ⟨"RelayHallModel", "declared", "(LRelayHallModel$Channel;[BILRelayHallModel$Queue;)LRelayHallModel$Queue;"⟩ ⟨"RelayHallModel", "declared", "(LRelayHallModel$Channel;[BILRelayHallModel$Queue;)LRelayHallModel$Queue;"⟩) ∈ lw_G := x_gw (inT_0 _ (List.mem_of_getElem? (i := 191) (by decide +kernel))) rfl
theorem gw_192 : (Cond.selects "RelayHallModel" ⟨"RelayHallModel", "bind", "(LRelayHallModel$Channel;Z)V"⟩ ⟨"RelayHallModel", "bind", "(LRelayHallModel$Channel;Z)V"⟩) ∈ lw_G := x_gw (inT_0 _ (List.mem_of_getElem? (i := 192) (by decide +kernel))) rfl
theorem gw_193 : (Cond.selects "RelayHallModel" ⟨"RelayHallModel", "asked", "(LRelayHallModel$Channel;[B)LRelayHallModel$Queue;"⟩ ⟨"RelayHallModel", "asked", "(LRelayHallModel$Channel;[B)LRelayHallModel$Queue;"⟩) ∈ lw_G := x_gw (inT_0 _ (List.mem_of_getElem? (i := 193) (by decide +kernel))) rfl
theorem gw_194 : (Cond.selects "RelayHallModel" ⟨"RelayHallModel", "boundTo", "(LRelayHallModel$Channel;[B)LRelayHallModel$Exchange;"⟩ ⟨"RelayHallModel", "boundTo", "(LRelayHallModel$Channel;[B)LRelayHallModel$Exchange;"⟩) ∈ lw_G := x_gw (inT_0 _ (List.mem_of_getElem? (i := 194) (by decide +kernel))) rfl
theorem gw_195 : (Cond.selects "RelayHallModel" ⟨"RelayHallModel", "findBinding", "(LRelayHallModel$Queue;LRelayHallModel$Exchange;[BLRelayHallModel$Table;)I"⟩ ⟨"RelayHallModel", "findBinding", "(LRelayHallModel$Queue;LRelayHallModel$Exchange;[BLRelayHallModel$Table;)I"⟩) ∈ lw_G := x_gw (inT_0 _ (List.mem_of_getElem? (i := 195) (by decide +kernel))) rfl
theorem gw_196 : (Cond.selects "RelayHallModel" ⟨"RelayHallModel", "addBinding", "(LRelayHallModel$Queue;LRelayHallModel$Exchange;[BLRelayHallModel$Table;)V"⟩ ⟨"RelayHallModel", "addBinding", "(LRelayHallModel$Queue;LRelayHallModel$Exchange;[BLRelayHallModel$Table;)V"⟩) ∈ lw_G := x_gw (inT_0 _ (List.mem_of_getElem? (i := 196) (by decide +kernel))) rfl
theorem gw_197 : (Cond.selects "RelayHallModel" ⟨"RelayHallModel", "dropBinding", "(I)V"⟩ ⟨"RelayHallModel", "dropBinding", "(I)V"⟩) ∈ lw_G := x_gw (inT_0 _ (List.mem_of_getElem? (i := 197) (by decide +kernel))) rfl
theorem gw_198 : (Cond.selects "RelayHallModel" ⟨"RelayHallModel", "purge", "(LRelayHallModel$Channel;)V"⟩ ⟨"RelayHallModel", "purge", "(LRelayHallModel$Channel;)V"⟩) ∈ lw_G := x_gw (inT_0 _ (List.mem_of_getElem? (i := 198) (by decide +kernel))) rfl
theorem gw_199 : (Cond.selects "RelayHallModel" ⟨"RelayHallModel", "deleteQueue", "(LRelayHallModel$Channel;)V"⟩ ⟨"RelayHallModel", "deleteQueue", "(LRelayHallModel$Channel;)V"⟩) ∈ lw_G := x_gw (inT_0 _ (List.mem_of_getElem? (i := 199) (by decide +kernel))) rfl
theorem gw_200 : (Cond.selects "RelayHallModel" ⟨"RelayHallModel", "onMessage", "(LRelayHallModel$Channel;)V"⟩ ⟨"RelayHallModel", "onMessage", "(LRelayHallModel$Channel;)V"⟩) ∈ lw_G := x_gw (inT_0 _ (List.mem_of_getElem? (i := 200) (by decide +kernel))) rfl
theorem gw_201 : (Cond.selects "RelayHallModel" ⟨"RelayHallModel", "qos", "(LRelayHallModel$Channel;)V"⟩ ⟨"RelayHallModel", "qos", "(LRelayHallModel$Channel;)V"⟩) ∈ lw_G := x_gw (inT_0 _ (List.mem_of_getElem? (i := 201) (by decide +kernel))) rfl
theorem gw_202 : (Cond.selects "RelayHallModel" ⟨"RelayHallModel", "consume", "(LRelayHallModel$Channel;)V"⟩ ⟨"RelayHallModel", "consume", "(LRelayHallModel$Channel;)V"⟩) ∈ lw_G := x_gw (inT_0 _ (List.mem_of_getElem? (i := 202) (by decide +kernel))) rfl
theorem gw_203 : (Cond.selects "RelayHallModel" ⟨"RelayHallModel", "exclusively", "(LRelayHallModel$Queue;)Z"⟩ ⟨"RelayHallModel", "exclusively", "(LRelayHallModel$Queue;)Z"⟩) ∈ lw_G := x_gw (inT_0 _ (List.mem_of_getElem? (i := 203) (by decide +kernel))) rfl
theorem gw_204 : (Cond.selects "RelayHallModel" ⟨"RelayHallModel", "consumer", "(LRelayHallModel$Channel;[B)LRelayHallModel$Consumer;"⟩ ⟨"RelayHallModel", "consumer", "(LRelayHallModel$Channel;[B)LRelayHallModel$Consumer;"⟩) ∈ lw_G := x_gw (inT_0 _ (List.mem_of_getElem? (i := 204) (by decide +kernel))) rfl
theorem gw_205 : (Cond.selects "RelayHallModel" ⟨"RelayHallModel", "sendTag", "(LRelayHallModel$Channel;I[B)V"⟩ ⟨"RelayHallModel", "sendTag", "(LRelayHallModel$Channel;I[B)V"⟩) ∈ lw_G := x_gw (inT_0 _ (List.mem_of_getElem? (i := 205) (by decide +kernel))) rfl
theorem gw_206 : (Cond.selects "RelayHallModel" ⟨"RelayHallModel", "cancels", "(LRelayHallModel$Channel;)V"⟩ ⟨"RelayHallModel", "cancels", "(LRelayHallModel$Channel;)V"⟩) ∈ lw_G := x_gw (inT_0 _ (List.mem_of_getElem? (i := 206) (by decide +kernel))) rfl
theorem gw_207 : (Cond.selects "RelayHallModel" ⟨"RelayHallModel", "publishes", "(LRelayHallModel$Channel;)V"⟩ ⟨"RelayHallModel", "publishes", "(LRelayHallModel$Channel;)V"⟩) ∈ lw_G := x_gw (inT_0 _ (List.mem_of_getElem? (i := 207) (by decide +kernel))) rfl
theorem gw_208 : (Cond.selects "RelayHallModel" ⟨"RelayHallModel", "get", "(LRelayHallModel$Channel;)V"⟩ ⟨"RelayHallModel", "get", "(LRelayHallModel$Channel;)V"⟩) ∈ lw_G := x_gw (inT_0 _ (List.mem_of_getElem? (i := 208) (by decide +kernel))) rfl
theorem gw_209 : (Cond.selects "RelayHallModel" ⟨"RelayHallModel", "recovers", "(LRelayHallModel$Channel;)V"⟩ ⟨"RelayHallModel", "recovers", "(LRelayHallModel$Channel;)V"⟩) ∈ lw_G := x_gw (inT_0 _ (List.mem_of_getElem? (i := 209) (by decide +kernel))) rfl
theorem gw_210 : (Cond.selects "RelayHallModel" ⟨"RelayHallModel", "onTag", "(LRelayHallModel$Channel;)V"⟩ ⟨"RelayHallModel", "onTag", "(LRelayHallModel$Channel;)V"⟩) ∈ lw_G := x_gw (inT_0 _ (List.mem_of_getElem? (i := 210) (by decide +kernel))) rfl
theorem gw_211 : (Cond.selects "RelayHallModel" ⟨"RelayHallModel", "acknowledges", "(LRelayHallModel$Channel;IZI)V"⟩ ⟨"RelayHallModel", "acknowledges", "(LRelayHallModel$Channel;IZI)V"⟩) ∈ lw_G := x_gw (inT_0 _ (List.mem_of_getElem? (i := 211) (by decide +kernel))) rfl
theorem gw_212 : (Cond.selects "RelayHallModel" ⟨"RelayHallModel", "told", "(LRelayHallModel$Channel;IZ)[LRelayHallModel$Sent;"⟩ ⟨"RelayHallModel", "told", "(LRelayHallModel$Channel;IZ)[LRelayHallModel$Sent;"⟩) ∈ lw_G := x_gw (inT_0 _ (List.mem_of_getElem? (i := 212) (by decide +kernel))) rfl
theorem gw_213 : (Cond.selects "RelayHallModel" ⟨"RelayHallModel", "remove", "(LRelayHallModel$Channel;LRelayHallModel$Sent;)V"⟩ ⟨"RelayHallModel", "remove", "(LRelayHallModel$Channel;LRelayHallModel$Sent;)V"⟩) ∈ lw_G := x_gw (inT_0 _ (List.mem_of_getElem? (i := 213) (by decide +kernel))) rfl
theorem gw_214 : (Cond.selects "RelayHallModel" ⟨"RelayHallModel", "settle", "(LRelayHallModel$Sent;I)V"⟩ ⟨"RelayHallModel", "settle", "(LRelayHallModel$Sent;I)V"⟩) ∈ lw_G := x_gw (inT_0 _ (List.mem_of_getElem? (i := 214) (by decide +kernel))) rfl
theorem gw_215 : (Cond.selects "RelayHallModel" ⟨"RelayHallModel", "keeps", "(LRelayHallModel$Channel;)LRelayHallModel$Kept;"⟩ ⟨"RelayHallModel", "keeps", "(LRelayHallModel$Channel;)LRelayHallModel$Kept;"⟩) ∈ lw_G := x_gw (inT_0 _ (List.mem_of_getElem? (i := 215) (by decide +kernel))) rfl
theorem gw_216 : (Cond.selects "RelayHallModel" ⟨"RelayHallModel", "confirms", "(LRelayHallModel$Channel;)V"⟩ ⟨"RelayHallModel", "confirms", "(LRelayHallModel$Channel;)V"⟩) ∈ lw_G := x_gw (inT_0 _ (List.mem_of_getElem? (i := 216) (by decide +kernel))) rfl
theorem gw_217 : (Cond.selects "RelayHallModel" ⟨"RelayHallModel", "transaction", "(LRelayHallModel$Channel;I)V"⟩ ⟨"RelayHallModel", "transaction", "(LRelayHallModel$Channel;I)V"⟩) ∈ lw_G := x_gw (inT_0 _ (List.mem_of_getElem? (i := 217) (by decide +kernel))) rfl
theorem gw_218 : (Cond.selects "RelayHallModel" ⟨"RelayHallModel", "commits", "(LRelayHallModel$Channel;)V"⟩ ⟨"RelayHallModel", "commits", "(LRelayHallModel$Channel;)V"⟩) ∈ lw_G := x_gw (inT_0 _ (List.mem_of_getElem? (i := 218) (by decide +kernel))) rfl
theorem gw_219 : (Cond.selects "RelayHallModel" ⟨"RelayHallModel", "publish", "(LRelayHallModel$Channel;LRelayHallModel$Content;)Z"⟩ ⟨"RelayHallModel", "publish", "(LRelayHallModel$Channel;LRelayHallModel$Content;)Z"⟩) ∈ lw_G := x_gw (inT_0 _ (List.mem_of_getElem? (i := 219) (by decide +kernel))) rfl
theorem gw_220 : (Cond.selects "RelayHallModel" ⟨"RelayHallModel", "sendReturn", "(LRelayHallModel$Channel;LRelayHallModel$Content;)V"⟩ ⟨"RelayHallModel", "sendReturn", "(LRelayHallModel$Channel;LRelayHallModel$Content;)V"⟩) ∈ lw_G := x_gw (inT_0 _ (List.mem_of_getElem? (i := 220) (by decide +kernel))) rfl
theorem gw_221 : (Cond.selects "RelayHallModel" ⟨"RelayHallModel", "confirm", "(LRelayHallModel$Channel;Z)V"⟩ ⟨"RelayHallModel", "confirm", "(LRelayHallModel$Channel;Z)V"⟩) ∈ lw_G := x_gw (inT_0 _ (List.mem_of_getElem? (i := 221) (by decide +kernel))) rfl
theorem gw_222 : (Cond.selects "RelayHallModel" ⟨"RelayHallModel", "sendConfirm", "(LRelayHallModel$Channel;I)V"⟩ ⟨"RelayHallModel", "sendConfirm", "(LRelayHallModel$Channel;I)V"⟩) ∈ lw_G := x_gw (inT_0 _ (List.mem_of_getElem? (i := 222) (by decide +kernel))) rfl
theorem gw_223 : (Cond.selects "RelayHallModel" ⟨"RelayHallModel", "header", "(LRelayHallModel$Channel;)V"⟩ ⟨"RelayHallModel", "header", "(LRelayHallModel$Channel;)V"⟩) ∈ lw_G := x_gw (inT_0 _ (List.mem_of_getElem? (i := 223) (by decide +kernel))) rfl
theorem gw_224 : (Cond.selects "RelayHallModel" ⟨"RelayHallModel", "arrived", "(LRelayHallModel$Channel;)V"⟩ ⟨"RelayHallModel", "arrived", "(LRelayHallModel$Channel;)V"⟩) ∈ lw_G := x_gw (inT_0 _ (List.mem_of_getElem? (i := 224) (by decide +kernel))) rfl
theorem gw_225 : (Cond.selects "RelayHallModel" ⟨"RelayHallModel", "body", "(LRelayHallModel$Channel;)V"⟩ ⟨"RelayHallModel", "body", "(LRelayHallModel$Channel;)V"⟩) ∈ lw_G := x_gw (inT_0 _ (List.mem_of_getElem? (i := 225) (by decide +kernel))) rfl
theorem gw_226 : (Cond.selects "RelayHallModel" ⟨"RelayHallModel", "onClosing", "(LRelayHallModel$Connection;I)V"⟩ ⟨"RelayHallModel", "onClosing", "(LRelayHallModel$Connection;I)V"⟩) ∈ lw_G := x_gw (inT_0 _ (List.mem_of_getElem? (i := 226) (by decide +kernel))) rfl
theorem gw_227 : (Cond.selects "RelayHallModel" ⟨"RelayHallModel", "onGreeted", "(LRelayHallModel$Connection;II)V"⟩ ⟨"RelayHallModel", "onGreeted", "(LRelayHallModel$Connection;II)V"⟩) ∈ lw_G := x_gw (inT_0 _ (List.mem_of_getElem? (i := 227) (by decide +kernel))) rfl
theorem gw_228 : (Cond.selects "RelayHallModel" ⟨"RelayHallModel", "secure", "(I)V"⟩ ⟨"RelayHallModel", "secure", "(I)V"⟩) ∈ lw_G := x_gw (inT_0 _ (List.mem_of_getElem? (i := 228) (by decide +kernel))) rfl
theorem gw_229 : (Cond.selects "RelayHallModel" ⟨"RelayHallModel", "make", "(LRelayHallModel$Fact;)V"⟩ ⟨"RelayHallModel", "make", "(LRelayHallModel$Fact;)V"⟩) ∈ lw_G := x_gw (inT_0 _ (List.mem_of_getElem? (i := 229) (by decide +kernel))) rfl
theorem gw_230 : (Cond.selects "RelayHallModel" ⟨"RelayHallModel", "forgetExchange", "(LRelayHallModel$Exchange;)V"⟩ ⟨"RelayHallModel", "forgetExchange", "(LRelayHallModel$Exchange;)V"⟩) ∈ lw_G := x_gw (inT_0 _ (List.mem_of_getElem? (i := 230) (by decide +kernel))) rfl
theorem gw_231 : (Cond.selects "RelayHallModel" ⟨"RelayHallModel", "takeSafeBinding", "(I)V"⟩ ⟨"RelayHallModel", "takeSafeBinding", "(I)V"⟩) ∈ lw_G := x_gw (inT_0 _ (List.mem_of_getElem? (i := 231) (by decide +kernel))) rfl
theorem gw_232 : (Cond.selects "RelayHallModel" ⟨"RelayHallModel", "forgetQueue", "(LRelayHallModel$Queue;)V"⟩ ⟨"RelayHallModel", "forgetQueue", "(LRelayHallModel$Queue;)V"⟩) ∈ lw_G := x_gw (inT_0 _ (List.mem_of_getElem? (i := 232) (by decide +kernel))) rfl
theorem gw_233 : (Cond.selects "RelayHallModel" ⟨"RelayHallModel", "takeSafeEntry", "(I)V"⟩ ⟨"RelayHallModel", "takeSafeEntry", "(I)V"⟩) ∈ lw_G := x_gw (inT_0 _ (List.mem_of_getElem? (i := 233) (by decide +kernel))) rfl
theorem gw_234 : (Cond.selects "RelayHallModel" ⟨"RelayHallModel", "confirmAll", "()V"⟩ ⟨"RelayHallModel", "confirmAll", "()V"⟩) ∈ lw_G := x_gw (inT_0 _ (List.mem_of_getElem? (i := 234) (by decide +kernel))) rfl
theorem gw_235 : (Cond.selects "RelayHallModel" ⟨"RelayHallModel", "expire", "()V"⟩ ⟨"RelayHallModel", "expire", "()V"⟩) ∈ lw_G := x_gw (inT_0 _ (List.mem_of_getElem? (i := 235) (by decide +kernel))) rfl
theorem gw_236 : (Cond.selects "RelayHallModel" ⟨"RelayHallModel", "expired", "(LRelayHallModel$Entry;)Z"⟩ ⟨"RelayHallModel", "expired", "(LRelayHallModel$Entry;)Z"⟩) ∈ lw_G := x_gw (inT_0 _ (List.mem_of_getElem? (i := 236) (by decide +kernel))) rfl
theorem gw_237 : (Cond.selects "RelayHallModel" ⟨"RelayHallModel", "beat", "(LRelayHallModel$Connection;)V"⟩ ⟨"RelayHallModel", "beat", "(LRelayHallModel$Connection;)V"⟩) ∈ lw_G := x_gw (inT_0 _ (List.mem_of_getElem? (i := 237) (by decide +kernel))) rfl
theorem gw_238 : (Cond.selects "RelayHallModel" ⟨"RelayHallModel", "forgetAll", "(LRelayHallModel$Connection;)V"⟩ ⟨"RelayHallModel", "forgetAll", "(LRelayHallModel$Connection;)V"⟩) ∈ lw_G := x_gw (inT_0 _ (List.mem_of_getElem? (i := 238) (by decide +kernel))) rfl
theorem gw_239 : (Cond.selects "RelayHallModel" ⟨"RelayHallModel", "restoreEntry", "(LRelayHallModel$Entry;)V"⟩ ⟨"RelayHallModel", "restoreEntry", "(LRelayHallModel$Entry;)V"⟩) ∈ lw_G := x_gw (inT_0 _ (List.mem_of_getElem? (i := 239) (by decide +kernel))) rfl
theorem gw_241 : (Cond.initialized "RelayHall") ∈ lw_G := x_gw (inT_1 _ (List.mem_of_getElem? (i := 1) rfl)) rfl
theorem gw_242 : (Cond.initialized "RelayHall$Durable") ∈ lw_G := x_gw (inT_1 _ (List.mem_of_getElem? (i := 2) rfl)) rfl
theorem gw_243 : (Cond.initialized "RelayHall$Exchange") ∈ lw_G := x_gw (inT_1 _ (List.mem_of_getElem? (i := 3) rfl)) rfl
theorem gw_244 : (Cond.initialized "java/util/AbstractCollection") ∈ lw_G := x_gw (inT_1 _ (List.mem_of_getElem? (i := 4) rfl)) rfl
theorem gw_245 : (Cond.initialized "java/util/AbstractList") ∈ lw_G := x_gw (inT_1 _ (List.mem_of_getElem? (i := 5) rfl)) rfl
theorem gw_246 : (Cond.initialized "java/util/ArrayList") ∈ lw_G := x_gw (inT_1 _ (List.mem_of_getElem? (i := 6) rfl)) rfl
theorem gw_247 : (Cond.initialized "RelayHall$Log") ∈ lw_G := x_gw (inT_1 _ (List.mem_of_getElem? (i := 7) rfl)) rfl
theorem gw_248 : (Cond.initialized "RelayHall$Reader") ∈ lw_G := x_gw (inT_1 _ (List.mem_of_getElem? (i := 8) rfl)) rfl
theorem gw_249 : (Cond.initialized "java/lang/AbstractStringBuilder") ∈ lw_G := x_gw (inT_1 _ (List.mem_of_getElem? (i := 9) rfl)) rfl
theorem gw_250 : (Cond.initialized "java/lang/StringBuilder") ∈ lw_G := x_gw (inT_1 _ (List.mem_of_getElem? (i := 10) rfl)) rfl
theorem gw_251 : (Cond.initialized "java/lang/String") ∈ lw_G := x_gw (inT_1 _ (List.mem_of_getElem? (i := 11) rfl)) rfl
theorem gw_252 : (Cond.initialized "java/lang/StringUTF16") ∈ lw_G := x_gw (inT_1 _ (List.mem_of_getElem? (i := 12) rfl)) rfl
theorem gw_253 : (Cond.initialized "RelayHall$Connection") ∈ lw_G := x_gw (inT_1 _ (List.mem_of_getElem? (i := 13) rfl)) rfl
theorem gw_254 : (Cond.initialized "RelayHall$Channel") ∈ lw_G := x_gw (inT_1 _ (List.mem_of_getElem? (i := 14) rfl)) rfl
theorem gw_255 : (Cond.initialized "RelayHallModel") ∈ lw_G := x_gw (inT_1 _ (List.mem_of_getElem? (i := 15) rfl)) rfl
theorem gw_256 : (Cond.initialized "RelayHallModel$Connection") ∈ lw_G := x_gw (inT_1 _ (List.mem_of_getElem? (i := 16) rfl)) rfl
theorem gw_257 : (Cond.initialized "RelayHallModel$Channel") ∈ lw_G := x_gw (inT_1 _ (List.mem_of_getElem? (i := 17) rfl)) rfl
theorem gw_258 : (Cond.initialized "jdk/internal/util/ArraysSupport") ∈ lw_G := x_gw (inT_1 _ (List.mem_of_getElem? (i := 18) rfl)) rfl
theorem gw_259 : (Cond.initialized "java/lang/Math") ∈ lw_G := x_gw (inT_1 _ (List.mem_of_getElem? (i := 19) rfl)) rfl
theorem gw_260 : (Cond.initialized "java/util/Arrays") ∈ lw_G := x_gw (inT_1 _ (List.mem_of_getElem? (i := 20) rfl)) rfl
theorem gw_262 : (Cond.initialized "jdk/internal/util/Preconditions") ∈ lw_G := x_gw (inT_1 _ (List.mem_of_getElem? (i := 22) rfl)) rfl
theorem gw_263 : (Cond.initialized "RelayHall$Table") ∈ lw_G := x_gw (inT_1 _ (List.mem_of_getElem? (i := 23) rfl)) rfl
theorem gw_264 : (Cond.initialized "java/lang/StringLatin1") ∈ lw_G := x_gw (inT_1 _ (List.mem_of_getElem? (i := 24) rfl)) rfl
theorem gw_268 : (Cond.initialized "java/lang/IllegalArgumentException") ∈ lw_G := x_gw (inT_1 _ (List.mem_of_getElem? (i := 28) rfl)) rfl
theorem gw_269 : (Cond.initialized "java/lang/Number") ∈ lw_G := x_gw (inT_1 _ (List.mem_of_getElem? (i := 29) rfl)) rfl
theorem gw_270 : (Cond.initialized "java/lang/Integer") ∈ lw_G := x_gw (inT_1 _ (List.mem_of_getElem? (i := 30) rfl)) rfl
theorem gw_271 : (Cond.initialized "java/util/Objects") ∈ lw_G := x_gw (inT_1 _ (List.mem_of_getElem? (i := 31) rfl)) rfl
theorem gw_272 : (Cond.initialized "java/lang/IndexOutOfBoundsException") ∈ lw_G := x_gw (inT_1 _ (List.mem_of_getElem? (i := 32) rfl)) rfl
theorem gw_273 : (Cond.initialized "java/lang/StringIndexOutOfBoundsException") ∈ lw_G := x_gw (inT_1 _ (List.mem_of_getElem? (i := 33) rfl)) rfl
theorem gw_274 : (Cond.initialized "java/lang/ArrayIndexOutOfBoundsException") ∈ lw_G := x_gw (inT_1 _ (List.mem_of_getElem? (i := 34) rfl)) rfl
theorem gw_275 : (Cond.initialized "RelayHall$Queue") ∈ lw_G := x_gw (inT_1 _ (List.mem_of_getElem? (i := 35) rfl)) rfl
theorem gw_276 : (Cond.initialized "RelayHall$Binding") ∈ lw_G := x_gw (inT_1 _ (List.mem_of_getElem? (i := 36) rfl)) rfl
theorem gw_277 : (Cond.initialized "RelayHall$Consumer") ∈ lw_G := x_gw (inT_1 _ (List.mem_of_getElem? (i := 37) rfl)) rfl
theorem gw_278 : (Cond.initialized "RelayHall$Message") ∈ lw_G := x_gw (inT_1 _ (List.mem_of_getElem? (i := 38) rfl)) rfl
theorem gw_280 : (Cond.initialized "RelayHallModel$Fact") ∈ lw_G := x_gw (inT_1 _ (List.mem_of_getElem? (i := 40) rfl)) rfl
theorem gw_281 : (Cond.initialized "RelayHallModel$Dead") ∈ lw_G := x_gw (inT_1 _ (List.mem_of_getElem? (i := 41) rfl)) rfl
theorem gw_282 : (Cond.initialized "RelayHallModel$Entry") ∈ lw_G := x_gw (inT_1 _ (List.mem_of_getElem? (i := 42) rfl)) rfl
theorem gw_283 : (Cond.initialized "RelayHallModel$Sent") ∈ lw_G := x_gw (inT_1 _ (List.mem_of_getElem? (i := 43) rfl)) rfl
theorem gw_284 : (Cond.initialized "RelayHallModel$Table") ∈ lw_G := x_gw (inT_1 _ (List.mem_of_getElem? (i := 44) rfl)) rfl
theorem gw_285 : (Cond.initialized "RelayHallModel$Exchange") ∈ lw_G := x_gw (inT_1 _ (List.mem_of_getElem? (i := 45) rfl)) rfl
theorem gw_286 : (Cond.initialized "RelayHallModel$Queue") ∈ lw_G := x_gw (inT_1 _ (List.mem_of_getElem? (i := 46) rfl)) rfl
theorem gw_287 : (Cond.initialized "RelayHallModel$Binding") ∈ lw_G := x_gw (inT_1 _ (List.mem_of_getElem? (i := 47) rfl)) rfl
theorem gw_288 : (Cond.initialized "RelayHallModel$Consumer") ∈ lw_G := x_gw (inT_1 _ (List.mem_of_getElem? (i := 48) rfl)) rfl
theorem gw_289 : (Cond.initialized "RelayHallModel$Content") ∈ lw_G := x_gw (inT_1 _ (List.mem_of_getElem? (i := 49) rfl)) rfl
theorem gw_290 : (Cond.initialized "RelayHallModel$Kept") ∈ lw_G := x_gw (inT_1 _ (List.mem_of_getElem? (i := 50) rfl)) rfl
theorem gw_291 : (Cond.initialized "java/util/NoSuchElementException") ∈ lw_G := x_gw (inT_1 _ (List.mem_of_getElem? (i := 51) rfl)) rfl
theorem gw_292 : (Cond.classLink "RelayHallLaw" 8 "RelayHall") ∈ lw_G := x_gw (inT_1 _ (List.mem_of_getElem? (i := 52) rfl)) rfl
theorem gw_293 : (Cond.instantiable "RelayHall" 21) ∈ lw_G := x_gw (inT_1 _ (List.mem_of_getElem? (i := 53) rfl)) rfl
theorem gw_294 : (Cond.methodLink "RelayHallLaw" 26 ⟨"RelayHall", "<init>", "()V"⟩) ∈ lw_G := x_gw (inT_1 _ (List.mem_of_getElem? (i := 54) rfl)) rfl
theorem gw_295 : (Cond.instanceMethod ⟨"RelayHall", "<init>", "()V"⟩) ∈ lw_G := x_gw (inT_1 _ (List.mem_of_getElem? (i := 55) rfl)) rfl
theorem gw_296 : (Cond.code ⟨"RelayHall", "<init>", "()V"⟩ prog_1_method_1_code 4 none) ∈ lw_G := x_gw (inT_1 _ (List.mem_of_getElem? (i := 56) rfl)) rfl
theorem gw_297 : (Cond.methodLink "RelayHall" 1 ⟨"java/lang/Object", "<init>", "()V"⟩) ∈ lw_G := x_gw (inT_1 _ (List.mem_of_getElem? (i := 57) rfl)) rfl
theorem gw_298 : (Cond.instanceMethod ⟨"java/lang/Object", "<init>", "()V"⟩) ∈ lw_G := x_gw (inT_1 _ (List.mem_of_getElem? (i := 58) rfl)) rfl
theorem gw_299 : (Cond.code ⟨"java/lang/Object", "<init>", "()V"⟩ object_method_1_code 1 none) ∈ lw_G := x_gw (inT_1 _ (List.mem_of_getElem? (i := 59) rfl)) rfl
theorem gw_300 : (Cond.classLink "RelayHall" 17 "RelayHall$Connection") ∈ lw_G := x_gw (inT_1 _ (List.mem_of_getElem? (i := 60) rfl)) rfl
theorem gw_302 : (Cond.classLink "RelayHall" 23 "RelayHall$Exchange") ∈ lw_G := x_gw (inT_1 _ (List.mem_of_getElem? (i := 62) rfl)) rfl
theorem gw_303 : (Cond.instantiable "RelayHall$Exchange" 8) ∈ lw_G := x_gw (inT_1 _ (List.mem_of_getElem? (i := 63) rfl)) rfl
theorem gw_305 : (Cond.methodLink "RelayHall" 27 ⟨"RelayHall$Exchange", "<init>", "(Ljava/lang/String;IILjava/lang/String;)V"⟩) ∈ lw_G := x_gw (inT_1 _ (List.mem_of_getElem? (i := 65) rfl)) rfl
theorem gw_306 : (Cond.instanceMethod ⟨"RelayHall$Exchange", "<init>", "(Ljava/lang/String;IILjava/lang/String;)V"⟩) ∈ lw_G := x_gw (inT_1 _ (List.mem_of_getElem? (i := 66) rfl)) rfl
theorem gw_307 : (Cond.code ⟨"RelayHall$Exchange", "<init>", "(Ljava/lang/String;IILjava/lang/String;)V"⟩ prog_7_method_1_code 5 none) ∈ lw_G := x_gw (inT_1 _ (List.mem_of_getElem? (i := 67) rfl)) rfl
theorem gw_309 : (Cond.instanceMethod ⟨"RelayHall$Durable", "<init>", "()V"⟩) ∈ lw_G := x_gw (inT_1 _ (List.mem_of_getElem? (i := 69) rfl)) rfl
theorem gw_310 : (Cond.code ⟨"RelayHall$Durable", "<init>", "()V"⟩ prog_6_method_1_code 1 none) ∈ lw_G := x_gw (inT_1 _ (List.mem_of_getElem? (i := 70) rfl)) rfl
theorem gw_311 : (Cond.methodLink "RelayHall$Durable" 1 ⟨"java/lang/Object", "<init>", "()V"⟩) ∈ lw_G := x_gw (inT_1 _ (List.mem_of_getElem? (i := 71) rfl)) rfl
theorem gw_312 : (Cond.fieldLink "RelayHall$Exchange" 9 "RelayHall$Exchange" "name" "Ljava/lang/String;") ∈ lw_G := x_gw (inT_1 _ (List.mem_of_getElem? (i := 72) rfl)) rfl
theorem gw_313 : (Cond.fieldLink "RelayHall" 269 "RelayHall$Exchange" "name" "Ljava/lang/String;") ∈ lw_G := x_gw (inT_1 _ (List.mem_of_getElem? (i := 73) rfl)) rfl
theorem gw_314 : (Cond.fieldLink "RelayHall$Exchange" 15 "RelayHall$Exchange" "kind" "I") ∈ lw_G := x_gw (inT_1 _ (List.mem_of_getElem? (i := 74) rfl)) rfl
theorem gw_315 : (Cond.fieldLink "RelayHall$Binding" 72 "RelayHall$Exchange" "kind" "I") ∈ lw_G := x_gw (inT_1 _ (List.mem_of_getElem? (i := 75) rfl)) rfl
theorem gw_316 : (Cond.fieldLink "RelayHall" 261 "RelayHall$Exchange" "kind" "I") ∈ lw_G := x_gw (inT_1 _ (List.mem_of_getElem? (i := 76) rfl)) rfl
theorem gw_317 : (Cond.fieldLink "RelayHall$Exchange" 19 "RelayHall$Exchange" "bits" "I") ∈ lw_G := x_gw (inT_1 _ (List.mem_of_getElem? (i := 77) rfl)) rfl
theorem gw_318 : (Cond.fieldLink "RelayHall" 264 "RelayHall$Exchange" "bits" "I") ∈ lw_G := x_gw (inT_1 _ (List.mem_of_getElem? (i := 78) rfl)) rfl
theorem gw_319 : (Cond.fieldLink "RelayHall$Exchange" 22 "RelayHall$Exchange" "alternate" "Ljava/lang/String;") ∈ lw_G := x_gw (inT_1 _ (List.mem_of_getElem? (i := 79) rfl)) rfl
theorem gw_320 : (Cond.fieldLink "RelayHall" 602 "RelayHall$Exchange" "alternate" "Ljava/lang/String;") ∈ lw_G := x_gw (inT_1 _ (List.mem_of_getElem? (i := 80) rfl)) rfl
theorem gw_321 : (Cond.fieldLink "RelayHall$Exchange" 25 "RelayHall$Exchange" "durable" "Z") ∈ lw_G := x_gw (inT_1 _ (List.mem_of_getElem? (i := 81) rfl)) rfl
theorem gw_322 : (Cond.fieldLink "RelayHall$Binding" 52 "RelayHall$Exchange" "durable" "Z") ∈ lw_G := x_gw (inT_1 _ (List.mem_of_getElem? (i := 82) rfl)) rfl
theorem gw_323 : (Cond.fieldLink "RelayHall" 608 "RelayHall$Exchange" "durable" "Z") ∈ lw_G := x_gw (inT_1 _ (List.mem_of_getElem? (i := 83) rfl)) rfl
theorem gw_324 : (Cond.fieldLink "RelayHall$Exchange" 29 "RelayHall$Exchange" "autoDelete" "Z") ∈ lw_G := x_gw (inT_1 _ (List.mem_of_getElem? (i := 84) rfl)) rfl
theorem gw_325 : (Cond.fieldLink "RelayHall" 692 "RelayHall$Exchange" "autoDelete" "Z") ∈ lw_G := x_gw (inT_1 _ (List.mem_of_getElem? (i := 85) rfl)) rfl
theorem gw_326 : (Cond.fieldLink "RelayHall$Exchange" 32 "RelayHall$Exchange" "internal" "Z") ∈ lw_G := x_gw (inT_1 _ (List.mem_of_getElem? (i := 86) rfl)) rfl
theorem gw_327 : (Cond.fieldLink "RelayHall" 714 "RelayHall$Exchange" "internal" "Z") ∈ lw_G := x_gw (inT_1 _ (List.mem_of_getElem? (i := 87) rfl)) rfl
theorem gw_328 : (Cond.fieldLink "RelayHall$Durable" 7 "RelayHall$Durable" "safe" "Z") ∈ lw_G := x_gw (inT_1 _ (List.mem_of_getElem? (i := 88) rfl)) rfl
theorem gw_329 : (Cond.fieldLink "RelayHall$Log" 29 "RelayHall$Durable" "safe" "Z") ∈ lw_G := x_gw (inT_1 _ (List.mem_of_getElem? (i := 89) rfl)) rfl
theorem gw_347 : (Cond.arrayClass .byte) ∈ lw_G := x_gw (inT_1 _ (List.mem_of_getElem? (i := 107) rfl)) rfl
theorem gw_348 : (Cond.classLink "RelayHall" 34 "java/util/ArrayList") ∈ lw_G := x_gw (inT_1 _ (List.mem_of_getElem? (i := 108) rfl)) rfl
theorem gw_349 : (Cond.instantiable "java/util/ArrayList" 3) ∈ lw_G := x_gw (inT_1 _ (List.mem_of_getElem? (i := 109) rfl)) rfl
theorem gw_350 : (Cond.methodLink "RelayHall" 36 ⟨"java/util/ArrayList", "<init>", "()V"⟩) ∈ lw_G := x_gw (inT_1 _ (List.mem_of_getElem? (i := 110) rfl)) rfl
theorem gw_351 : (Cond.instanceMethod ⟨"java/util/ArrayList", "<init>", "()V"⟩) ∈ lw_G := x_gw (inT_1 _ (List.mem_of_getElem? (i := 111) rfl)) rfl
theorem gw_352 : (Cond.code ⟨"java/util/ArrayList", "<init>", "()V"⟩ prog_50_method_2_code 1 none) ∈ lw_G := x_gw (inT_1 _ (List.mem_of_getElem? (i := 112) rfl)) rfl
theorem gw_353 : (Cond.methodLink "java/util/ArrayList" 1 ⟨"java/util/AbstractList", "<init>", "()V"⟩) ∈ lw_G := x_gw (inT_1 _ (List.mem_of_getElem? (i := 113) rfl)) rfl
theorem gw_354 : (Cond.instanceMethod ⟨"java/util/AbstractList", "<init>", "()V"⟩) ∈ lw_G := x_gw (inT_1 _ (List.mem_of_getElem? (i := 114) rfl)) rfl
theorem gw_355 : (Cond.code ⟨"java/util/AbstractList", "<init>", "()V"⟩ prog_49_method_1_code 1 none) ∈ lw_G := x_gw (inT_1 _ (List.mem_of_getElem? (i := 115) rfl)) rfl
theorem gw_356 : (Cond.methodLink "java/util/AbstractList" 1 ⟨"java/util/AbstractCollection", "<init>", "()V"⟩) ∈ lw_G := x_gw (inT_1 _ (List.mem_of_getElem? (i := 116) rfl)) rfl
theorem gw_357 : (Cond.instanceMethod ⟨"java/util/AbstractCollection", "<init>", "()V"⟩) ∈ lw_G := x_gw (inT_1 _ (List.mem_of_getElem? (i := 117) rfl)) rfl
theorem gw_358 : (Cond.code ⟨"java/util/AbstractCollection", "<init>", "()V"⟩ prog_48_method_1_code 1 none) ∈ lw_G := x_gw (inT_1 _ (List.mem_of_getElem? (i := 118) rfl)) rfl
theorem gw_359 : (Cond.methodLink "java/util/AbstractCollection" 1 ⟨"java/lang/Object", "<init>", "()V"⟩) ∈ lw_G := x_gw (inT_1 _ (List.mem_of_getElem? (i := 119) rfl)) rfl
theorem gw_360 : (Cond.fieldLink "java/util/ArrayList" 39 "java/util/ArrayList" "DEFAULTCAPACITY_EMPTY_ELEMENTDATA" "[Ljava/lang/Object;") ∈ lw_G := x_gw (inT_1 _ (List.mem_of_getElem? (i := 120) rfl)) rfl
theorem gw_362 : (Cond.fieldLink "java/util/ArrayList" 9 "java/util/ArrayList" "elementData" "[Ljava/lang/Object;") ∈ lw_G := x_gw (inT_1 _ (List.mem_of_getElem? (i := 122) rfl)) rfl
theorem gw_363 : (Cond.fieldLink "java/util/ArrayList" 48 "java/util/ArrayList" "size" "I") ∈ lw_G := x_gw (inT_1 _ (List.mem_of_getElem? (i := 123) rfl)) rfl
theorem gw_364 : (Cond.fieldLink "java/util/AbstractList" 7 "java/util/AbstractList" "modCount" "I") ∈ lw_G := x_gw (inT_1 _ (List.mem_of_getElem? (i := 124) rfl)) rfl
theorem gw_365 : (Cond.fieldLink "java/util/ArrayList" 63 "java/util/ArrayList" "modCount" "I") ∈ lw_G := x_gw (inT_1 _ (List.mem_of_getElem? (i := 125) rfl)) rfl
theorem gw_366 : (Cond.sameField "java/util/ArrayList" "java/util/AbstractList" "modCount" "I") ∈ lw_G := x_gw (inT_1 _ (List.mem_of_getElem? (i := 126) rfl)) rfl
theorem gw_374 : (Cond.classLink "RelayHall" 59 "RelayHall$Log") ∈ lw_G := x_gw (inT_1 _ (List.mem_of_getElem? (i := 134) rfl)) rfl
theorem gw_375 : (Cond.instantiable "RelayHall$Log" 2) ∈ lw_G := x_gw (inT_1 _ (List.mem_of_getElem? (i := 135) rfl)) rfl
theorem gw_377 : (Cond.instanceMethod ⟨"RelayHall$Log", "<init>", "()V"⟩) ∈ lw_G := x_gw (inT_1 _ (List.mem_of_getElem? (i := 137) rfl)) rfl
theorem gw_378 : (Cond.code ⟨"RelayHall$Log", "<init>", "()V"⟩ prog_8_method_1_code 1 none) ∈ lw_G := x_gw (inT_1 _ (List.mem_of_getElem? (i := 138) rfl)) rfl
theorem gw_379 : (Cond.methodLink "RelayHall$Log" 1 ⟨"java/lang/Object", "<init>", "()V"⟩) ∈ lw_G := x_gw (inT_1 _ (List.mem_of_getElem? (i := 139) rfl)) rfl
theorem gw_380 : (Cond.classLink "RelayHall$Log" 7 "java/util/ArrayList") ∈ lw_G := x_gw (inT_1 _ (List.mem_of_getElem? (i := 140) rfl)) rfl
theorem gw_381 : (Cond.methodLink "RelayHall$Log" 9 ⟨"java/util/ArrayList", "<init>", "()V"⟩) ∈ lw_G := x_gw (inT_1 _ (List.mem_of_getElem? (i := 141) rfl)) rfl
theorem gw_382 : (Cond.fieldLink "RelayHall$Log" 10 "RelayHall$Log" "pending" "Ljava/util/ArrayList;") ∈ lw_G := x_gw (inT_1 _ (List.mem_of_getElem? (i := 142) rfl)) rfl
theorem gw_383 : (Cond.fieldLink "RelayHall" 171 "RelayHall$Log" "pending" "Ljava/util/ArrayList;") ∈ lw_G := x_gw (inT_1 _ (List.mem_of_getElem? (i := 143) rfl)) rfl
theorem gw_384 : (Cond.fieldLink "RelayHall$Log" 16 "RelayHall$Log" "things" "Ljava/util/ArrayList;") ∈ lw_G := x_gw (inT_1 _ (List.mem_of_getElem? (i := 144) rfl)) rfl
theorem gw_385 : (Cond.fieldLink "RelayHall" 971 "RelayHall$Log" "things" "Ljava/util/ArrayList;") ∈ lw_G := x_gw (inT_1 _ (List.mem_of_getElem? (i := 145) rfl)) rfl
theorem gw_391 : (Cond.classLink "RelayHall" 66 "RelayHall$Reader") ∈ lw_G := x_gw (inT_1 _ (List.mem_of_getElem? (i := 151) rfl)) rfl
theorem gw_392 : (Cond.instantiable "RelayHall$Reader" 4) ∈ lw_G := x_gw (inT_1 _ (List.mem_of_getElem? (i := 152) rfl)) rfl
theorem gw_394 : (Cond.instanceMethod ⟨"RelayHall$Reader", "<init>", "()V"⟩) ∈ lw_G := x_gw (inT_1 _ (List.mem_of_getElem? (i := 154) rfl)) rfl
theorem gw_395 : (Cond.code ⟨"RelayHall$Reader", "<init>", "()V"⟩ prog_11_method_1_code 1 none) ∈ lw_G := x_gw (inT_1 _ (List.mem_of_getElem? (i := 155) rfl)) rfl
theorem gw_396 : (Cond.methodLink "RelayHall$Reader" 3 ⟨"java/lang/Object", "<init>", "()V"⟩) ∈ lw_G := x_gw (inT_1 _ (List.mem_of_getElem? (i := 156) rfl)) rfl
theorem gw_397 : (Cond.fieldLink "RelayHall$Reader" 9 "RelayHall$Reader" "bytes" "[B") ∈ lw_G := x_gw (inT_1 _ (List.mem_of_getElem? (i := 157) rfl)) rfl
theorem gw_398 : (Cond.fieldLink "RelayHall$Reader" 15 "RelayHall$Reader" "at" "I") ∈ lw_G := x_gw (inT_1 _ (List.mem_of_getElem? (i := 158) rfl)) rfl
theorem gw_399 : (Cond.fieldLink "RelayHall$Reader" 19 "RelayHall$Reader" "end" "I") ∈ lw_G := x_gw (inT_1 _ (List.mem_of_getElem? (i := 159) rfl)) rfl
theorem gw_400 : (Cond.fieldLink "RelayHall$Reader" 22 "RelayHall$Reader" "wrong" "Z") ∈ lw_G := x_gw (inT_1 _ (List.mem_of_getElem? (i := 160) rfl)) rfl
theorem gw_410 : (Cond.classLink "RelayHall" 73 "java/lang/StringBuilder") ∈ lw_G := x_gw (inT_1 _ (List.mem_of_getElem? (i := 170) rfl)) rfl
theorem gw_411 : (Cond.instantiable "java/lang/StringBuilder" 4) ∈ lw_G := x_gw (inT_1 _ (List.mem_of_getElem? (i := 171) rfl)) rfl
theorem gw_412 : (Cond.methodLink "RelayHall" 75 ⟨"java/lang/StringBuilder", "<init>", "()V"⟩) ∈ lw_G := x_gw (inT_1 _ (List.mem_of_getElem? (i := 172) rfl)) rfl
theorem gw_413 : (Cond.instanceMethod ⟨"java/lang/StringBuilder", "<init>", "()V"⟩) ∈ lw_G := x_gw (inT_1 _ (List.mem_of_getElem? (i := 173) rfl)) rfl
theorem gw_414 : (Cond.code ⟨"java/lang/StringBuilder", "<init>", "()V"⟩ prog_42_method_1_code 1 none) ∈ lw_G := x_gw (inT_1 _ (List.mem_of_getElem? (i := 174) rfl)) rfl
theorem gw_415 : (Cond.methodLink "java/lang/StringBuilder" 1 ⟨"java/lang/AbstractStringBuilder", "<init>", "(I)V"⟩) ∈ lw_G := x_gw (inT_1 _ (List.mem_of_getElem? (i := 175) rfl)) rfl
theorem gw_416 : (Cond.instanceMethod ⟨"java/lang/AbstractStringBuilder", "<init>", "(I)V"⟩) ∈ lw_G := x_gw (inT_1 _ (List.mem_of_getElem? (i := 176) rfl)) rfl
theorem gw_417 : (Cond.code ⟨"java/lang/AbstractStringBuilder", "<init>", "(I)V"⟩ prog_29_method_2_code 2 none) ∈ lw_G := x_gw (inT_1 _ (List.mem_of_getElem? (i := 177) rfl)) rfl
theorem gw_418 : (Cond.methodLink "java/lang/AbstractStringBuilder" 3 ⟨"java/lang/Object", "<init>", "()V"⟩) ∈ lw_G := x_gw (inT_1 _ (List.mem_of_getElem? (i := 178) rfl)) rfl
theorem gw_419 : (Cond.fieldLink "java/lang/AbstractStringBuilder" 18 "java/lang/String" "COMPACT_STRINGS" "Z") ∈ lw_G := x_gw (inT_1 _ (List.mem_of_getElem? (i := 179) rfl)) rfl
theorem gw_421 : (Cond.methodLink "java/lang/AbstractStringBuilder" 26 ⟨"java/lang/StringUTF16", "newBytesFor", "(I)[B"⟩) ∈ lw_G := x_gw (inT_1 _ (List.mem_of_getElem? (i := 181) rfl)) rfl
theorem gw_422 : (Cond.static ⟨"java/lang/StringUTF16", "newBytesFor", "(I)[B"⟩) ∈ lw_G := x_gw (inT_1 _ (List.mem_of_getElem? (i := 182) rfl)) rfl
theorem gw_423 : (Cond.code ⟨"java/lang/StringUTF16", "newBytesFor", "(I)[B"⟩ prog_45_method_2_code 1 (some (.array .byte))) ∈ lw_G := x_gw (inT_1 _ (List.mem_of_getElem? (i := 183) rfl)) rfl
theorem gw_424 : (Cond.methodLink "java/lang/StringUTF16" 11 ⟨"java/lang/StringUTF16", "newBytesLength", "(I)I"⟩) ∈ lw_G := x_gw (inT_1 _ (List.mem_of_getElem? (i := 184) rfl)) rfl
theorem gw_425 : (Cond.static ⟨"java/lang/StringUTF16", "newBytesLength", "(I)I"⟩) ∈ lw_G := x_gw (inT_1 _ (List.mem_of_getElem? (i := 185) rfl)) rfl
theorem gw_426 : (Cond.code ⟨"java/lang/StringUTF16", "newBytesLength", "(I)I"⟩ prog_45_method_3_code 1 (some .int)) ∈ lw_G := x_gw (inT_1 _ (List.mem_of_getElem? (i := 186) rfl)) rfl
theorem gw_427 : (Cond.constant "java/lang/StringUTF16" 20 (1073741823)) ∈ lw_G := x_gw (inT_1 _ (List.mem_of_getElem? (i := 187) rfl)) rfl
theorem gw_428 : (Cond.fieldLink "java/lang/AbstractStringBuilder" 15 "java/lang/AbstractStringBuilder" "value" "[B") ∈ lw_G := x_gw (inT_1 _ (List.mem_of_getElem? (i := 188) rfl)) rfl
theorem gw_429 : (Cond.fieldLink "java/lang/AbstractStringBuilder" 22 "java/lang/AbstractStringBuilder" "coder" "B") ∈ lw_G := x_gw (inT_1 _ (List.mem_of_getElem? (i := 189) rfl)) rfl
theorem gw_430 : (Cond.fieldLink "java/lang/AbstractStringBuilder" 73 "java/lang/AbstractStringBuilder" "maybeLatin1" "Z") ∈ lw_G := x_gw (inT_1 _ (List.mem_of_getElem? (i := 190) rfl)) rfl
theorem gw_431 : (Cond.fieldLink "java/lang/String" 1048 "java/lang/AbstractStringBuilder" "maybeLatin1" "Z") ∈ lw_G := x_gw (inT_1 _ (List.mem_of_getElem? (i := 191) rfl)) rfl
theorem gw_432 : (Cond.fieldLink "java/lang/AbstractStringBuilder" 79 "java/lang/AbstractStringBuilder" "count" "I") ∈ lw_G := x_gw (inT_1 _ (List.mem_of_getElem? (i := 192) rfl)) rfl
theorem gw_442 : (Cond.instantiable "RelayHall$Connection" 14) ∈ lw_G := x_gw (inT_1 _ (List.mem_of_getElem? (i := 202) rfl)) rfl
theorem gw_444 : (Cond.instanceMethod ⟨"RelayHall$Connection", "<init>", "()V"⟩) ∈ lw_G := x_gw (inT_1 _ (List.mem_of_getElem? (i := 204) rfl)) rfl
theorem gw_445 : (Cond.code ⟨"RelayHall$Connection", "<init>", "()V"⟩ prog_4_method_1_code 1 none) ∈ lw_G := x_gw (inT_1 _ (List.mem_of_getElem? (i := 205) rfl)) rfl
theorem gw_446 : (Cond.methodLink "RelayHall$Connection" 3 ⟨"java/lang/Object", "<init>", "()V"⟩) ∈ lw_G := x_gw (inT_1 _ (List.mem_of_getElem? (i := 206) rfl)) rfl
theorem gw_447 : (Cond.classLink "RelayHall$Connection" 9 "RelayHall$Channel") ∈ lw_G := x_gw (inT_1 _ (List.mem_of_getElem? (i := 207) rfl)) rfl
theorem gw_449 : (Cond.fieldLink "RelayHall$Connection" 11 "RelayHall$Connection" "channels" "[LRelayHall$Channel;") ∈ lw_G := x_gw (inT_1 _ (List.mem_of_getElem? (i := 209) rfl)) rfl
theorem gw_450 : (Cond.fieldLink "RelayHall" 102 "RelayHall$Connection" "channels" "[LRelayHall$Channel;") ∈ lw_G := x_gw (inT_1 _ (List.mem_of_getElem? (i := 210) rfl)) rfl
theorem gw_451 : (Cond.fieldLink "RelayHall$Connection" 17 "RelayHall$Connection" "state" "I") ∈ lw_G := x_gw (inT_1 _ (List.mem_of_getElem? (i := 211) rfl)) rfl
theorem gw_452 : (Cond.fieldLink "RelayHall" 115 "RelayHall$Connection" "state" "I") ∈ lw_G := x_gw (inT_1 _ (List.mem_of_getElem? (i := 212) rfl)) rfl
theorem gw_453 : (Cond.fieldLink "RelayHall$Connection" 21 "RelayHall$Connection" "heartbeat" "I") ∈ lw_G := x_gw (inT_1 _ (List.mem_of_getElem? (i := 213) rfl)) rfl
theorem gw_454 : (Cond.fieldLink "RelayHall" 201 "RelayHall$Connection" "heartbeat" "I") ∈ lw_G := x_gw (inT_1 _ (List.mem_of_getElem? (i := 214) rfl)) rfl
theorem gw_455 : (Cond.fieldLink "RelayHall$Connection" 24 "RelayHall$Connection" "lastIn" "I") ∈ lw_G := x_gw (inT_1 _ (List.mem_of_getElem? (i := 215) rfl)) rfl
theorem gw_456 : (Cond.fieldLink "RelayHall" 122 "RelayHall$Connection" "lastIn" "I") ∈ lw_G := x_gw (inT_1 _ (List.mem_of_getElem? (i := 216) rfl)) rfl
theorem gw_457 : (Cond.fieldLink "RelayHall$Connection" 27 "RelayHall$Connection" "lastOut" "I") ∈ lw_G := x_gw (inT_1 _ (List.mem_of_getElem? (i := 217) rfl)) rfl
theorem gw_458 : (Cond.fieldLink "RelayHall" 323 "RelayHall$Connection" "lastOut" "I") ∈ lw_G := x_gw (inT_1 _ (List.mem_of_getElem? (i := 218) rfl)) rfl
theorem gw_459 : (Cond.fieldLink "RelayHall$Connection" 30 "RelayHall$Connection" "closingSince" "I") ∈ lw_G := x_gw (inT_1 _ (List.mem_of_getElem? (i := 219) rfl)) rfl
theorem gw_460 : (Cond.fieldLink "RelayHall" 359 "RelayHall$Connection" "closingSince" "I") ∈ lw_G := x_gw (inT_1 _ (List.mem_of_getElem? (i := 220) rfl)) rfl
theorem gw_461 : (Cond.fieldLink "RelayHall$Connection" 33 "RelayHall$Connection" "in" "[B") ∈ lw_G := x_gw (inT_1 _ (List.mem_of_getElem? (i := 221) rfl)) rfl
theorem gw_462 : (Cond.fieldLink "RelayHall" 133 "RelayHall$Connection" "in" "[B") ∈ lw_G := x_gw (inT_1 _ (List.mem_of_getElem? (i := 222) rfl)) rfl
theorem gw_463 : (Cond.fieldLink "RelayHall$Connection" 37 "RelayHall$Connection" "inLength" "I") ∈ lw_G := x_gw (inT_1 _ (List.mem_of_getElem? (i := 223) rfl)) rfl
theorem gw_464 : (Cond.fieldLink "RelayHall" 145 "RelayHall$Connection" "inLength" "I") ∈ lw_G := x_gw (inT_1 _ (List.mem_of_getElem? (i := 224) rfl)) rfl
theorem gw_465 : (Cond.fieldLink "RelayHall$Connection" 40 "RelayHall$Connection" "deaf" "Z") ∈ lw_G := x_gw (inT_1 _ (List.mem_of_getElem? (i := 225) rfl)) rfl
theorem gw_466 : (Cond.fieldLink "RelayHall" 424 "RelayHall$Connection" "deaf" "Z") ∈ lw_G := x_gw (inT_1 _ (List.mem_of_getElem? (i := 226) rfl)) rfl
theorem gw_467 : (Cond.fieldLink "RelayHall$Connection" 44 "RelayHall$Connection" "out" "[B") ∈ lw_G := x_gw (inT_1 _ (List.mem_of_getElem? (i := 227) rfl)) rfl
theorem gw_468 : (Cond.fieldLink "RelayHall$Connection" 47 "RelayHall$Connection" "outStart" "I") ∈ lw_G := x_gw (inT_1 _ (List.mem_of_getElem? (i := 228) rfl)) rfl
theorem gw_469 : (Cond.fieldLink "RelayHall$Connection" 50 "RelayHall$Connection" "outLength" "I") ∈ lw_G := x_gw (inT_1 _ (List.mem_of_getElem? (i := 229) rfl)) rfl
theorem gw_470 : (Cond.fieldLink "RelayHall" 155 "RelayHall$Connection" "outLength" "I") ∈ lw_G := x_gw (inT_1 _ (List.mem_of_getElem? (i := 230) rfl)) rfl
theorem gw_471 : (Cond.fieldLink "RelayHall$Connection" 53 "RelayHall$Connection" "drafted" "I") ∈ lw_G := x_gw (inT_1 _ (List.mem_of_getElem? (i := 231) rfl)) rfl
theorem gw_472 : (Cond.fieldLink "RelayHall" 317 "RelayHall$Connection" "drafted" "I") ∈ lw_G := x_gw (inT_1 _ (List.mem_of_getElem? (i := 232) rfl)) rfl
theorem gw_473 : (Cond.fieldLink "RelayHall$Connection" 56 "RelayHall$Connection" "frameAt" "I") ∈ lw_G := x_gw (inT_1 _ (List.mem_of_getElem? (i := 233) rfl)) rfl
theorem gw_503 : (Cond.classLink "RelayHall" 106 "RelayHall$Channel") ∈ lw_G := x_gw (inT_2 _ (List.mem_of_getElem? (i := 23) rfl)) rfl
theorem gw_504 : (Cond.instantiable "RelayHall$Channel" 20) ∈ lw_G := x_gw (inT_2 _ (List.mem_of_getElem? (i := 24) rfl)) rfl
theorem gw_505 : (Cond.methodLink "RelayHall" 108 ⟨"RelayHall$Channel", "<init>", "(LRelayHall$Connection;I)V"⟩) ∈ lw_G := x_gw (inT_2 _ (List.mem_of_getElem? (i := 25) rfl)) rfl
theorem gw_506 : (Cond.instanceMethod ⟨"RelayHall$Channel", "<init>", "(LRelayHall$Connection;I)V"⟩) ∈ lw_G := x_gw (inT_2 _ (List.mem_of_getElem? (i := 26) rfl)) rfl
theorem gw_507 : (Cond.code ⟨"RelayHall$Channel", "<init>", "(LRelayHall$Connection;I)V"⟩ prog_3_method_1_code 3 none) ∈ lw_G := x_gw (inT_2 _ (List.mem_of_getElem? (i := 27) rfl)) rfl
theorem gw_508 : (Cond.methodLink "RelayHall$Channel" 3 ⟨"java/lang/Object", "<init>", "()V"⟩) ∈ lw_G := x_gw (inT_2 _ (List.mem_of_getElem? (i := 28) rfl)) rfl
theorem gw_510 : (Cond.classLink "RelayHall$Channel" 53 "java/util/ArrayList") ∈ lw_G := x_gw (inT_2 _ (List.mem_of_getElem? (i := 30) rfl)) rfl
theorem gw_511 : (Cond.methodLink "RelayHall$Channel" 55 ⟨"java/util/ArrayList", "<init>", "()V"⟩) ∈ lw_G := x_gw (inT_2 _ (List.mem_of_getElem? (i := 31) rfl)) rfl
theorem gw_512 : (Cond.classLink "RelayHall$Channel" 70 "RelayHall$Message") ∈ lw_G := x_gw (inT_2 _ (List.mem_of_getElem? (i := 32) rfl)) rfl
theorem gw_514 : (Cond.fieldLink "RelayHall$Channel" 79 "RelayHall$Channel" "connection" "LRelayHall$Connection;") ∈ lw_G := x_gw (inT_2 _ (List.mem_of_getElem? (i := 34) rfl)) rfl
theorem gw_515 : (Cond.fieldLink "RelayHall" 329 "RelayHall$Channel" "connection" "LRelayHall$Connection;") ∈ lw_G := x_gw (inT_2 _ (List.mem_of_getElem? (i := 35) rfl)) rfl
theorem gw_516 : (Cond.fieldLink "RelayHall$Channel" 83 "RelayHall$Channel" "number" "I") ∈ lw_G := x_gw (inT_2 _ (List.mem_of_getElem? (i := 36) rfl)) rfl
theorem gw_517 : (Cond.fieldLink "RelayHall" 333 "RelayHall$Channel" "number" "I") ∈ lw_G := x_gw (inT_2 _ (List.mem_of_getElem? (i := 37) rfl)) rfl
theorem gw_518 : (Cond.fieldLink "RelayHall$Channel" 9 "RelayHall$Channel" "state" "I") ∈ lw_G := x_gw (inT_2 _ (List.mem_of_getElem? (i := 38) rfl)) rfl
theorem gw_519 : (Cond.fieldLink "RelayHall$Connection" 59 "RelayHall$Channel" "state" "I") ∈ lw_G := x_gw (inT_2 _ (List.mem_of_getElem? (i := 39) rfl)) rfl
theorem gw_520 : (Cond.fieldLink "RelayHall" 207 "RelayHall$Channel" "state" "I") ∈ lw_G := x_gw (inT_2 _ (List.mem_of_getElem? (i := 40) rfl)) rfl
theorem gw_521 : (Cond.fieldLink "RelayHall$Channel" 15 "RelayHall$Channel" "mode" "I") ∈ lw_G := x_gw (inT_2 _ (List.mem_of_getElem? (i := 41) rfl)) rfl
theorem gw_522 : (Cond.fieldLink "RelayHall" 214 "RelayHall$Channel" "mode" "I") ∈ lw_G := x_gw (inT_2 _ (List.mem_of_getElem? (i := 42) rfl)) rfl
theorem gw_523 : (Cond.fieldLink "RelayHall$Channel" 18 "RelayHall$Channel" "active" "Z") ∈ lw_G := x_gw (inT_2 _ (List.mem_of_getElem? (i := 43) rfl)) rfl
theorem gw_524 : (Cond.fieldLink "RelayHall$Consumer" 42 "RelayHall$Channel" "active" "Z") ∈ lw_G := x_gw (inT_2 _ (List.mem_of_getElem? (i := 44) rfl)) rfl
theorem gw_525 : (Cond.fieldLink "RelayHall" 573 "RelayHall$Channel" "active" "Z") ∈ lw_G := x_gw (inT_2 _ (List.mem_of_getElem? (i := 45) rfl)) rfl
theorem gw_526 : (Cond.fieldLink "RelayHall$Channel" 22 "RelayHall$Channel" "limit" "I") ∈ lw_G := x_gw (inT_2 _ (List.mem_of_getElem? (i := 46) rfl)) rfl
theorem gw_527 : (Cond.fieldLink "RelayHall$Consumer" 45 "RelayHall$Channel" "limit" "I") ∈ lw_G := x_gw (inT_2 _ (List.mem_of_getElem? (i := 47) rfl)) rfl
theorem gw_528 : (Cond.fieldLink "RelayHall" 861 "RelayHall$Channel" "limit" "I") ∈ lw_G := x_gw (inT_2 _ (List.mem_of_getElem? (i := 48) rfl)) rfl
theorem gw_529 : (Cond.fieldLink "RelayHall$Channel" 25 "RelayHall$Channel" "consumerLimit" "I") ∈ lw_G := x_gw (inT_2 _ (List.mem_of_getElem? (i := 49) rfl)) rfl
theorem gw_530 : (Cond.fieldLink "RelayHall$Consumer" 34 "RelayHall$Channel" "consumerLimit" "I") ∈ lw_G := x_gw (inT_2 _ (List.mem_of_getElem? (i := 50) rfl)) rfl
theorem gw_531 : (Cond.fieldLink "RelayHall" 863 "RelayHall$Channel" "consumerLimit" "I") ∈ lw_G := x_gw (inT_2 _ (List.mem_of_getElem? (i := 51) rfl)) rfl
theorem gw_532 : (Cond.fieldLink "RelayHall$Channel" 28 "RelayHall$Channel" "lastTag" "I") ∈ lw_G := x_gw (inT_2 _ (List.mem_of_getElem? (i := 52) rfl)) rfl
theorem gw_533 : (Cond.fieldLink "RelayHall" 217 "RelayHall$Channel" "lastTag" "I") ∈ lw_G := x_gw (inT_2 _ (List.mem_of_getElem? (i := 53) rfl)) rfl
theorem gw_534 : (Cond.fieldLink "RelayHall$Channel" 31 "RelayHall$Channel" "lastMadeTag" "I") ∈ lw_G := x_gw (inT_2 _ (List.mem_of_getElem? (i := 54) rfl)) rfl
theorem gw_535 : (Cond.fieldLink "RelayHall" 885 "RelayHall$Channel" "lastMadeTag" "I") ∈ lw_G := x_gw (inT_2 _ (List.mem_of_getElem? (i := 55) rfl)) rfl
theorem gw_536 : (Cond.fieldLink "RelayHall$Channel" 34 "RelayHall$Channel" "lastConfirm" "I") ∈ lw_G := x_gw (inT_2 _ (List.mem_of_getElem? (i := 56) rfl)) rfl
theorem gw_537 : (Cond.fieldLink "RelayHall" 220 "RelayHall$Channel" "lastConfirm" "I") ∈ lw_G := x_gw (inT_2 _ (List.mem_of_getElem? (i := 57) rfl)) rfl
theorem gw_538 : (Cond.fieldLink "RelayHall$Channel" 39 "RelayHall$Channel" "lastQueue" "Ljava/lang/String;") ∈ lw_G := x_gw (inT_2 _ (List.mem_of_getElem? (i := 58) rfl)) rfl
theorem gw_539 : (Cond.fieldLink "RelayHall" 631 "RelayHall$Channel" "lastQueue" "Ljava/lang/String;") ∈ lw_G := x_gw (inT_2 _ (List.mem_of_getElem? (i := 59) rfl)) rfl
theorem gw_540 : (Cond.fieldLink "RelayHall$Channel" 43 "RelayHall$Channel" "due" "I") ∈ lw_G := x_gw (inT_2 _ (List.mem_of_getElem? (i := 60) rfl)) rfl
theorem gw_541 : (Cond.fieldLink "RelayHall" 491 "RelayHall$Channel" "due" "I") ∈ lw_G := x_gw (inT_2 _ (List.mem_of_getElem? (i := 61) rfl)) rfl
theorem gw_542 : (Cond.fieldLink "RelayHall$Channel" 46 "RelayHall$Channel" "content" "LRelayHall$Message;") ∈ lw_G := x_gw (inT_2 _ (List.mem_of_getElem? (i := 62) rfl)) rfl
theorem gw_543 : (Cond.fieldLink "RelayHall" 720 "RelayHall$Channel" "content" "LRelayHall$Message;") ∈ lw_G := x_gw (inT_2 _ (List.mem_of_getElem? (i := 63) rfl)) rfl
theorem gw_544 : (Cond.fieldLink "RelayHall$Channel" 50 "RelayHall$Channel" "filled" "I") ∈ lw_G := x_gw (inT_2 _ (List.mem_of_getElem? (i := 64) rfl)) rfl
theorem gw_545 : (Cond.fieldLink "RelayHall" 745 "RelayHall$Channel" "filled" "I") ∈ lw_G := x_gw (inT_2 _ (List.mem_of_getElem? (i := 65) rfl)) rfl
theorem gw_546 : (Cond.fieldLink "RelayHall$Channel" 56 "RelayHall$Channel" "unacked" "Ljava/util/ArrayList;") ∈ lw_G := x_gw (inT_2 _ (List.mem_of_getElem? (i := 66) rfl)) rfl
theorem gw_547 : (Cond.fieldLink "RelayHall" 208 "RelayHall$Channel" "unacked" "Ljava/util/ArrayList;") ∈ lw_G := x_gw (inT_2 _ (List.mem_of_getElem? (i := 67) rfl)) rfl
theorem gw_548 : (Cond.fieldLink "RelayHall$Channel" 60 "RelayHall$Channel" "unackedOfConsumers" "I") ∈ lw_G := x_gw (inT_2 _ (List.mem_of_getElem? (i := 68) rfl)) rfl
theorem gw_549 : (Cond.fieldLink "RelayHall$Consumer" 46 "RelayHall$Channel" "unackedOfConsumers" "I") ∈ lw_G := x_gw (inT_2 _ (List.mem_of_getElem? (i := 69) rfl)) rfl
theorem gw_550 : (Cond.fieldLink "RelayHall" 935 "RelayHall$Channel" "unackedOfConsumers" "I") ∈ lw_G := x_gw (inT_2 _ (List.mem_of_getElem? (i := 70) rfl)) rfl
theorem gw_551 : (Cond.fieldLink "RelayHall$Channel" 63 "RelayHall$Channel" "kept" "I") ∈ lw_G := x_gw (inT_2 _ (List.mem_of_getElem? (i := 71) rfl)) rfl
theorem gw_552 : (Cond.fieldLink "RelayHall" 211 "RelayHall$Channel" "kept" "I") ∈ lw_G := x_gw (inT_2 _ (List.mem_of_getElem? (i := 72) rfl)) rfl
theorem gw_553 : (Cond.fieldLink "RelayHall$Channel" 66 "RelayHall$Channel" "keptKinds" "[I") ∈ lw_G := x_gw (inT_2 _ (List.mem_of_getElem? (i := 73) rfl)) rfl
theorem gw_554 : (Cond.fieldLink "RelayHall" 955 "RelayHall$Channel" "keptKinds" "[I") ∈ lw_G := x_gw (inT_2 _ (List.mem_of_getElem? (i := 74) rfl)) rfl
theorem gw_555 : (Cond.fieldLink "RelayHall$Channel" 72 "RelayHall$Channel" "keptMessages" "[LRelayHall$Message;") ∈ lw_G := x_gw (inT_2 _ (List.mem_of_getElem? (i := 75) rfl)) rfl
theorem gw_556 : (Cond.fieldLink "RelayHall" 958 "RelayHall$Channel" "keptMessages" "[LRelayHall$Message;") ∈ lw_G := x_gw (inT_2 _ (List.mem_of_getElem? (i := 76) rfl)) rfl
theorem gw_557 : (Cond.fieldLink "RelayHall$Channel" 76 "RelayHall$Channel" "confirmsDue" "Ljava/util/ArrayList;") ∈ lw_G := x_gw (inT_2 _ (List.mem_of_getElem? (i := 77) rfl)) rfl
theorem gw_558 : (Cond.fieldLink "RelayHall" 794 "RelayHall$Channel" "confirmsDue" "Ljava/util/ArrayList;") ∈ lw_G := x_gw (inT_2 _ (List.mem_of_getElem? (i := 78) rfl)) rfl
theorem gw_600 : (Cond.arrayClass .int) ∈ lw_G := x_gw (inT_2 _ (List.mem_of_getElem? (i := 120) rfl)) rfl
theorem gw_601 : (Cond.fieldLink "RelayHall" 9 "RelayHall" "tape" "[B") ∈ lw_G := x_gw (inT_2 _ (List.mem_of_getElem? (i := 121) rfl)) rfl
theorem gw_602 : (Cond.fieldLink "RelayHall" 13 "RelayHall" "tapeLength" "I") ∈ lw_G := x_gw (inT_2 _ (List.mem_of_getElem? (i := 122) rfl)) rfl
theorem gw_603 : (Cond.fieldLink "RelayHall" 19 "RelayHall" "connections" "[LRelayHall$Connection;") ∈ lw_G := x_gw (inT_2 _ (List.mem_of_getElem? (i := 123) rfl)) rfl
theorem gw_604 : (Cond.fieldLink "RelayHall" 30 "RelayHall" "defaultExchange" "LRelayHall$Exchange;") ∈ lw_G := x_gw (inT_2 _ (List.mem_of_getElem? (i := 124) rfl)) rfl
theorem gw_605 : (Cond.fieldLink "RelayHall" 37 "RelayHall" "exchanges" "Ljava/util/ArrayList;") ∈ lw_G := x_gw (inT_2 _ (List.mem_of_getElem? (i := 125) rfl)) rfl
theorem gw_606 : (Cond.fieldLink "RelayHall" 41 "RelayHall" "queues" "Ljava/util/ArrayList;") ∈ lw_G := x_gw (inT_2 _ (List.mem_of_getElem? (i := 126) rfl)) rfl
theorem gw_607 : (Cond.fieldLink "RelayHall" 44 "RelayHall" "bindings" "Ljava/util/ArrayList;") ∈ lw_G := x_gw (inT_2 _ (List.mem_of_getElem? (i := 127) rfl)) rfl
theorem gw_608 : (Cond.fieldLink "RelayHall" 47 "RelayHall" "consumers" "Ljava/util/ArrayList;") ∈ lw_G := x_gw (inT_2 _ (List.mem_of_getElem? (i := 128) rfl)) rfl
theorem gw_609 : (Cond.fieldLink "RelayHall" 50 "RelayHall" "dead" "Ljava/util/ArrayList;") ∈ lw_G := x_gw (inT_2 _ (List.mem_of_getElem? (i := 129) rfl)) rfl
theorem gw_610 : (Cond.fieldLink "RelayHall" 53 "RelayHall" "leaving" "Ljava/util/ArrayList;") ∈ lw_G := x_gw (inT_2 _ (List.mem_of_getElem? (i := 130) rfl)) rfl
theorem gw_611 : (Cond.fieldLink "RelayHall" 56 "RelayHall" "targets" "Ljava/util/ArrayList;") ∈ lw_G := x_gw (inT_2 _ (List.mem_of_getElem? (i := 131) rfl)) rfl
theorem gw_612 : (Cond.fieldLink "RelayHall" 62 "RelayHall" "log" "LRelayHall$Log;") ∈ lw_G := x_gw (inT_2 _ (List.mem_of_getElem? (i := 132) rfl)) rfl
theorem gw_613 : (Cond.fieldLink "RelayHall" 69 "RelayHall" "in" "LRelayHall$Reader;") ∈ lw_G := x_gw (inT_2 _ (List.mem_of_getElem? (i := 133) rfl)) rfl
theorem gw_614 : (Cond.fieldLink "RelayHall" 76 "RelayHall" "words" "Ljava/lang/StringBuilder;") ∈ lw_G := x_gw (inT_2 _ (List.mem_of_getElem? (i := 134) rfl)) rfl
theorem gw_615 : (Cond.fieldLink "RelayHall" 80 "RelayHall" "blame" "I") ∈ lw_G := x_gw (inT_2 _ (List.mem_of_getElem? (i := 135) rfl)) rfl
theorem gw_616 : (Cond.fieldLink "RelayHall" 83 "RelayHall" "clock" "I") ∈ lw_G := x_gw (inT_2 _ (List.mem_of_getElem? (i := 136) rfl)) rfl
theorem gw_617 : (Cond.fieldLink "RelayHall" 86 "RelayHall" "held" "I") ∈ lw_G := x_gw (inT_2 _ (List.mem_of_getElem? (i := 137) rfl)) rfl
theorem gw_618 : (Cond.fieldLink "RelayHall" 89 "RelayHall" "lastNumber" "I") ∈ lw_G := x_gw (inT_2 _ (List.mem_of_getElem? (i := 138) rfl)) rfl
theorem gw_619 : (Cond.fieldLink "RelayHall" 92 "RelayHall" "lastGenerated" "I") ∈ lw_G := x_gw (inT_2 _ (List.mem_of_getElem? (i := 139) rfl)) rfl
theorem gw_620 : (Cond.fieldLink "RelayHall" 95 "RelayHall" "deaths" "I") ∈ lw_G := x_gw (inT_2 _ (List.mem_of_getElem? (i := 140) rfl)) rfl
theorem gw_621 : (Cond.fieldLink "RelayHall" 98 "RelayHall" "crashes" "I") ∈ lw_G := x_gw (inT_2 _ (List.mem_of_getElem? (i := 141) rfl)) rfl
theorem gw_665 : (Cond.methodLink "RelayHallLaw" 32 ⟨"RelayHall", "type", "(JI)Z"⟩) ∈ lw_G := x_gw (inT_2 _ (List.mem_of_getElem? (i := 185) rfl)) rfl
theorem gw_666 : (Cond.instanceMethod ⟨"RelayHall", "type", "(JI)Z"⟩) ∈ lw_G := x_gw (inT_2 _ (List.mem_of_getElem? (i := 186) rfl)) rfl
theorem gw_667 : (Cond.selects "RelayHall" ⟨"RelayHall", "type", "(JI)Z"⟩ ⟨"RelayHall", "type", "(JI)Z"⟩) ∈ lw_G := x_gw (inT_2 _ (List.mem_of_getElem? (i := 187) rfl)) rfl
theorem gw_668 : (Cond.code ⟨"RelayHall", "type", "(JI)Z"⟩ prog_1_method_2_code 5 (some .boolean)) ∈ lw_G := x_gw (inT_2 _ (List.mem_of_getElem? (i := 188) rfl)) rfl
theorem gw_669 : (Cond.methodLink "RelayHallLaw" 37 ⟨"RelayHall", "connect", "(I)Z"⟩) ∈ lw_G := x_gw (inT_2 _ (List.mem_of_getElem? (i := 189) rfl)) rfl
theorem gw_670 : (Cond.instanceMethod ⟨"RelayHall", "connect", "(I)Z"⟩) ∈ lw_G := x_gw (inT_2 _ (List.mem_of_getElem? (i := 190) rfl)) rfl
theorem gw_671 : (Cond.selects "RelayHall" ⟨"RelayHall", "connect", "(I)Z"⟩ ⟨"RelayHall", "connect", "(I)Z"⟩) ∈ lw_G := x_gw (inT_2 _ (List.mem_of_getElem? (i := 191) rfl)) rfl
theorem gw_672 : (Cond.code ⟨"RelayHall", "connect", "(I)Z"⟩ prog_1_method_3_code 2 (some .boolean)) ∈ lw_G := x_gw (inT_2 _ (List.mem_of_getElem? (i := 192) rfl)) rfl
theorem gw_673 : (Cond.methodLink "RelayHall" 111 ⟨"RelayHall", "isConnection", "(I)Z"⟩) ∈ lw_G := x_gw (inT_2 _ (List.mem_of_getElem? (i := 193) rfl)) rfl
theorem gw_674 : (Cond.static ⟨"RelayHall", "isConnection", "(I)Z"⟩) ∈ lw_G := x_gw (inT_2 _ (List.mem_of_getElem? (i := 194) rfl)) rfl
theorem gw_675 : (Cond.code ⟨"RelayHall", "isConnection", "(I)Z"⟩ prog_1_method_15_code 1 (some .boolean)) ∈ lw_G := x_gw (inT_2 _ (List.mem_of_getElem? (i := 195) rfl)) rfl
theorem gw_676 : (Cond.methodLink "RelayHall" 118 ⟨"RelayHall$Connection", "restart", "(I)V"⟩) ∈ lw_G := x_gw (inT_2 _ (List.mem_of_getElem? (i := 196) rfl)) rfl
theorem gw_677 : (Cond.instanceMethod ⟨"RelayHall$Connection", "restart", "(I)V"⟩) ∈ lw_G := x_gw (inT_2 _ (List.mem_of_getElem? (i := 197) rfl)) rfl
theorem gw_678 : (Cond.selects "RelayHall$Connection" ⟨"RelayHall$Connection", "restart", "(I)V"⟩ ⟨"RelayHall$Connection", "restart", "(I)V"⟩) ∈ lw_G := x_gw (inT_2 _ (List.mem_of_getElem? (i := 198) rfl)) rfl
theorem gw_679 : (Cond.code ⟨"RelayHall$Connection", "restart", "(I)V"⟩ prog_4_method_2_code 2 none) ∈ lw_G := x_gw (inT_2 _ (List.mem_of_getElem? (i := 199) rfl)) rfl
theorem gw_680 : (Cond.methodLink "RelayHallLaw" 42 ⟨"RelayHall", "send", "(I)I"⟩) ∈ lw_G := x_gw (inT_2 _ (List.mem_of_getElem? (i := 200) rfl)) rfl
theorem gw_681 : (Cond.instanceMethod ⟨"RelayHall", "send", "(I)I"⟩) ∈ lw_G := x_gw (inT_2 _ (List.mem_of_getElem? (i := 201) rfl)) rfl
theorem gw_682 : (Cond.selects "RelayHall" ⟨"RelayHall", "send", "(I)I"⟩ ⟨"RelayHall", "send", "(I)I"⟩) ∈ lw_G := x_gw (inT_2 _ (List.mem_of_getElem? (i := 202) rfl)) rfl
theorem gw_683 : (Cond.code ⟨"RelayHall", "send", "(I)I"⟩ prog_1_method_4_code 6 (some .int)) ∈ lw_G := x_gw (inT_2 _ (List.mem_of_getElem? (i := 203) rfl)) rfl
theorem gw_684 : (Cond.methodLink "RelayHall" 125 ⟨"RelayHall$Connection", "takes", "(B)Z"⟩) ∈ lw_G := x_gw (inT_2 _ (List.mem_of_getElem? (i := 204) rfl)) rfl
theorem gw_685 : (Cond.instanceMethod ⟨"RelayHall$Connection", "takes", "(B)Z"⟩) ∈ lw_G := x_gw (inT_2 _ (List.mem_of_getElem? (i := 205) rfl)) rfl
theorem gw_686 : (Cond.selects "RelayHall$Connection" ⟨"RelayHall$Connection", "takes", "(B)Z"⟩ ⟨"RelayHall$Connection", "takes", "(B)Z"⟩) ∈ lw_G := x_gw (inT_2 _ (List.mem_of_getElem? (i := 206) rfl)) rfl
theorem gw_687 : (Cond.code ⟨"RelayHall$Connection", "takes", "(B)Z"⟩ prog_4_method_5_code 2 (some .boolean)) ∈ lw_G := x_gw (inT_2 _ (List.mem_of_getElem? (i := 207) rfl)) rfl
theorem gw_690 : (Cond.methodLink "RelayHall$Connection" 67 ⟨"RelayHall$Connection", "hasFineHead", "()Z"⟩) ∈ lw_G := x_gw (inT_2 _ (List.mem_of_getElem? (i := 210) rfl)) rfl
theorem gw_692 : (Cond.instanceMethod ⟨"RelayHall$Connection", "hasFineHead", "()Z"⟩) ∈ lw_G := x_gw (inT_2 _ (List.mem_of_getElem? (i := 212) rfl)) rfl
theorem gw_693 : (Cond.code ⟨"RelayHall$Connection", "hasFineHead", "()Z"⟩ prog_4_method_6_code 3 (some .boolean)) ∈ lw_G := x_gw (inT_2 _ (List.mem_of_getElem? (i := 213) rfl)) rfl
theorem gw_694 : (Cond.methodLink "RelayHall$Connection" 73 ⟨"RelayHall$Connection", "frameSize", "()J"⟩) ∈ lw_G := x_gw (inT_2 _ (List.mem_of_getElem? (i := 214) rfl)) rfl
theorem gw_695 : (Cond.instanceMethod ⟨"RelayHall$Connection", "frameSize", "()J"⟩) ∈ lw_G := x_gw (inT_2 _ (List.mem_of_getElem? (i := 215) rfl)) rfl
theorem gw_696 : (Cond.selects "RelayHall$Connection" ⟨"RelayHall$Connection", "frameSize", "()J"⟩ ⟨"RelayHall$Connection", "frameSize", "()J"⟩) ∈ lw_G := x_gw (inT_2 _ (List.mem_of_getElem? (i := 216) rfl)) rfl
theorem gw_697 : (Cond.code ⟨"RelayHall$Connection", "frameSize", "()J"⟩ prog_4_method_10_code 1 (some .long)) ∈ lw_G := x_gw (inT_2 _ (List.mem_of_getElem? (i := 217) rfl)) rfl
theorem gw_698 : (Cond.constantLong "RelayHall$Connection" 83 (255)) ∈ lw_G := x_gw (inT_2 _ (List.mem_of_getElem? (i := 218) rfl)) rfl
theorem gw_699 : (Cond.constantLong "RelayHall$Connection" 77 (400)) ∈ lw_G := x_gw (inT_2 _ (List.mem_of_getElem? (i := 219) rfl)) rfl
theorem gw_700 : (Cond.constantLong "RelayHall$Connection" 71 (7)) ∈ lw_G := x_gw (inT_2 _ (List.mem_of_getElem? (i := 220) rfl)) rfl
theorem gw_701 : (Cond.methodLink "RelayHall" 129 ⟨"RelayHall", "sift", "(LRelayHall$Connection;)LRelayHall$Channel;"⟩) ∈ lw_G := x_gw (inT_2 _ (List.mem_of_getElem? (i := 221) rfl)) rfl
theorem gw_703 : (Cond.instanceMethod ⟨"RelayHall", "sift", "(LRelayHall$Connection;)LRelayHall$Channel;"⟩) ∈ lw_G := x_gw (inT_2 _ (List.mem_of_getElem? (i := 223) rfl)) rfl
theorem gw_704 : (Cond.code ⟨"RelayHall", "sift", "(LRelayHall$Connection;)LRelayHall$Channel;"⟩ prog_1_method_49_code 4 (some (.object "RelayHall$Channel"))) ∈ lw_G := x_gw (inT_2 _ (List.mem_of_getElem? (i := 224) rfl)) rfl
theorem gw_705 : (Cond.methodLink "RelayHall" 398 ⟨"RelayHall$Connection", "isFrame", "()Z"⟩) ∈ lw_G := x_gw (inT_2 _ (List.mem_of_getElem? (i := 225) rfl)) rfl
theorem gw_706 : (Cond.instanceMethod ⟨"RelayHall$Connection", "isFrame", "()Z"⟩) ∈ lw_G := x_gw (inT_2 _ (List.mem_of_getElem? (i := 226) rfl)) rfl
theorem gw_707 : (Cond.selects "RelayHall$Connection" ⟨"RelayHall$Connection", "isFrame", "()Z"⟩ ⟨"RelayHall$Connection", "isFrame", "()Z"⟩) ∈ lw_G := x_gw (inT_2 _ (List.mem_of_getElem? (i := 227) rfl)) rfl
theorem gw_708 : (Cond.code ⟨"RelayHall$Connection", "isFrame", "()Z"⟩ prog_4_method_7_code 1 (some .boolean)) ∈ lw_G := x_gw (inT_2 _ (List.mem_of_getElem? (i := 228) rfl)) rfl
theorem gw_709 : (Cond.methodLink "RelayHall" 473 ⟨"RelayHall", "takeOutsideOpen", "(LRelayHall$Connection;)V"⟩) ∈ lw_G := x_gw (inT_2 _ (List.mem_of_getElem? (i := 229) rfl)) rfl
theorem gw_711 : (Cond.instanceMethod ⟨"RelayHall", "takeOutsideOpen", "(LRelayHall$Connection;)V"⟩) ∈ lw_G := x_gw (inT_2 _ (List.mem_of_getElem? (i := 231) rfl)) rfl
theorem gw_712 : (Cond.code ⟨"RelayHall", "takeOutsideOpen", "(LRelayHall$Connection;)V"⟩ prog_1_method_41_code 2 none) ∈ lw_G := x_gw (inT_2 _ (List.mem_of_getElem? (i := 232) rfl)) rfl
theorem gw_713 : (Cond.methodLink "RelayHall" 395 ⟨"RelayHall", "takeGreeting", "(LRelayHall$Connection;)V"⟩) ∈ lw_G := x_gw (inT_2 _ (List.mem_of_getElem? (i := 233) rfl)) rfl
theorem gw_715 : (Cond.instanceMethod ⟨"RelayHall", "takeGreeting", "(LRelayHall$Connection;)V"⟩) ∈ lw_G := x_gw (inT_2 _ (List.mem_of_getElem? (i := 235) rfl)) rfl
theorem gw_716 : (Cond.code ⟨"RelayHall", "takeGreeting", "(LRelayHall$Connection;)V"⟩ prog_1_method_42_code 4 none) ∈ lw_G := x_gw (inT_2 _ (List.mem_of_getElem? (i := 236) rfl)) rfl
theorem gw_717 : (Cond.fieldLink "RelayHall" 413 "RelayHall" "GREETING_BYTES" "[I") ∈ lw_G := x_gw (inT_2 _ (List.mem_of_getElem? (i := 237) rfl)) rfl
theorem gw_718 : (Cond.constant "RelayHall" 417 (655370)) ∈ lw_G := x_gw (inT_2 _ (List.mem_of_getElem? (i := 238) rfl)) rfl
theorem gw_719 : (Cond.constantLong "RelayHall" 418 (9)) ∈ lw_G := x_gw (inT_2 _ (List.mem_of_getElem? (i := 239) rfl)) rfl
theorem gw_720 : (Cond.methodLink "RelayHall" 420 ⟨"RelayHall", "answerNumber", "(LRelayHall$Channel;IJI)V"⟩) ∈ lw_G := x_gw (inT_3 _ (List.mem_of_getElem? (i := 0) rfl)) rfl
theorem gw_722 : (Cond.instanceMethod ⟨"RelayHall", "answerNumber", "(LRelayHall$Channel;IJI)V"⟩) ∈ lw_G := x_gw (inT_3 _ (List.mem_of_getElem? (i := 2) rfl)) rfl
theorem gw_723 : (Cond.code ⟨"RelayHall", "answerNumber", "(LRelayHall$Channel;IJI)V"⟩ prog_1_method_33_code 6 none) ∈ lw_G := x_gw (inT_3 _ (List.mem_of_getElem? (i := 3) rfl)) rfl
theorem gw_724 : (Cond.methodLink "RelayHall" 336 ⟨"RelayHall$Connection", "method", "(II)V"⟩) ∈ lw_G := x_gw (inT_3 _ (List.mem_of_getElem? (i := 4) rfl)) rfl
theorem gw_725 : (Cond.instanceMethod ⟨"RelayHall$Connection", "method", "(II)V"⟩) ∈ lw_G := x_gw (inT_3 _ (List.mem_of_getElem? (i := 5) rfl)) rfl
theorem gw_726 : (Cond.selects "RelayHall$Connection" ⟨"RelayHall$Connection", "method", "(II)V"⟩ ⟨"RelayHall$Connection", "method", "(II)V"⟩) ∈ lw_G := x_gw (inT_3 _ (List.mem_of_getElem? (i := 6) rfl)) rfl
theorem gw_727 : (Cond.code ⟨"RelayHall$Connection", "method", "(II)V"⟩ prog_4_method_14_code 3 none) ∈ lw_G := x_gw (inT_3 _ (List.mem_of_getElem? (i := 7) rfl)) rfl
theorem gw_728 : (Cond.constantLong "RelayHall$Connection" 91 (281474976710656)) ∈ lw_G := x_gw (inT_3 _ (List.mem_of_getElem? (i := 8) rfl)) rfl
theorem gw_729 : (Cond.methodLink "RelayHall$Connection" 87 ⟨"RelayHall$Connection", "put", "(JI)V"⟩) ∈ lw_G := x_gw (inT_3 _ (List.mem_of_getElem? (i := 9) rfl)) rfl
theorem gw_730 : (Cond.instanceMethod ⟨"RelayHall$Connection", "put", "(JI)V"⟩) ∈ lw_G := x_gw (inT_3 _ (List.mem_of_getElem? (i := 10) rfl)) rfl
theorem gw_731 : (Cond.selects "RelayHall$Connection" ⟨"RelayHall$Connection", "put", "(JI)V"⟩ ⟨"RelayHall$Connection", "put", "(JI)V"⟩) ∈ lw_G := x_gw (inT_3 _ (List.mem_of_getElem? (i := 11) rfl)) rfl
theorem gw_732 : (Cond.code ⟨"RelayHall$Connection", "put", "(JI)V"⟩ prog_4_method_12_code 6 none) ∈ lw_G := x_gw (inT_3 _ (List.mem_of_getElem? (i := 12) rfl)) rfl
theorem gw_733 : (Cond.methodLink "RelayHall" 350 ⟨"RelayHall$Connection", "put", "(JI)V"⟩) ∈ lw_G := x_gw (inT_3 _ (List.mem_of_getElem? (i := 13) rfl)) rfl
theorem gw_734 : (Cond.methodLink "RelayHall" 340 ⟨"RelayHall$Connection", "end", "()V"⟩) ∈ lw_G := x_gw (inT_3 _ (List.mem_of_getElem? (i := 14) rfl)) rfl
theorem gw_735 : (Cond.instanceMethod ⟨"RelayHall$Connection", "end", "()V"⟩) ∈ lw_G := x_gw (inT_3 _ (List.mem_of_getElem? (i := 15) rfl)) rfl
theorem gw_736 : (Cond.selects "RelayHall$Connection" ⟨"RelayHall$Connection", "end", "()V"⟩ ⟨"RelayHall$Connection", "end", "()V"⟩) ∈ lw_G := x_gw (inT_3 _ (List.mem_of_getElem? (i := 16) rfl)) rfl
theorem gw_737 : (Cond.code ⟨"RelayHall$Connection", "end", "()V"⟩ prog_4_method_18_code 4 none) ∈ lw_G := x_gw (inT_3 _ (List.mem_of_getElem? (i := 17) rfl)) rfl
theorem gw_738 : (Cond.constantLong "RelayHall$Connection" 102 (206)) ∈ lw_G := x_gw (inT_3 _ (List.mem_of_getElem? (i := 18) rfl)) rfl
theorem gw_739 : (Cond.methodLink "RelayHall" 343 ⟨"RelayHall", "ship", "(LRelayHall$Connection;)V"⟩) ∈ lw_G := x_gw (inT_3 _ (List.mem_of_getElem? (i := 19) rfl)) rfl
theorem gw_741 : (Cond.instanceMethod ⟨"RelayHall", "ship", "(LRelayHall$Connection;)V"⟩) ∈ lw_G := x_gw (inT_3 _ (List.mem_of_getElem? (i := 21) rfl)) rfl
theorem gw_742 : (Cond.code ⟨"RelayHall", "ship", "(LRelayHall$Connection;)V"⟩ prog_1_method_29_code 2 none) ∈ lw_G := x_gw (inT_3 _ (List.mem_of_getElem? (i := 22) rfl)) rfl
theorem gw_743 : (Cond.methodLink "RelayHall" 320 ⟨"RelayHall$Connection", "fits", "()Z"⟩) ∈ lw_G := x_gw (inT_3 _ (List.mem_of_getElem? (i := 23) rfl)) rfl
theorem gw_744 : (Cond.instanceMethod ⟨"RelayHall$Connection", "fits", "()Z"⟩) ∈ lw_G := x_gw (inT_3 _ (List.mem_of_getElem? (i := 24) rfl)) rfl
theorem gw_745 : (Cond.selects "RelayHall$Connection" ⟨"RelayHall$Connection", "fits", "()Z"⟩ ⟨"RelayHall$Connection", "fits", "()Z"⟩) ∈ lw_G := x_gw (inT_3 _ (List.mem_of_getElem? (i := 25) rfl)) rfl
theorem gw_746 : (Cond.code ⟨"RelayHall$Connection", "fits", "()Z"⟩ prog_4_method_19_code 2 (some .boolean)) ∈ lw_G := x_gw (inT_3 _ (List.mem_of_getElem? (i := 26) rfl)) rfl
theorem gw_747 : (Cond.methodLink "RelayHall" 151 ⟨"RelayHall", "close", "(LRelayHall$Connection;)V"⟩) ∈ lw_G := x_gw (inT_3 _ (List.mem_of_getElem? (i := 27) rfl)) rfl
theorem gw_749 : (Cond.instanceMethod ⟨"RelayHall", "close", "(LRelayHall$Connection;)V"⟩) ∈ lw_G := x_gw (inT_3 _ (List.mem_of_getElem? (i := 29) rfl)) rfl
theorem gw_750 : (Cond.code ⟨"RelayHall", "close", "(LRelayHall$Connection;)V"⟩ prog_1_method_30_code 2 none) ∈ lw_G := x_gw (inT_3 _ (List.mem_of_getElem? (i := 30) rfl)) rfl
theorem gw_751 : (Cond.methodLink "RelayHall" 326 ⟨"java/util/ArrayList", "add", "(Ljava/lang/Object;)Z"⟩) ∈ lw_G := x_gw (inT_3 _ (List.mem_of_getElem? (i := 31) rfl)) rfl
theorem gw_752 : (Cond.instanceMethod ⟨"java/util/ArrayList", "add", "(Ljava/lang/Object;)Z"⟩) ∈ lw_G := x_gw (inT_3 _ (List.mem_of_getElem? (i := 32) rfl)) rfl
theorem gw_753 : (Cond.selects "java/util/ArrayList" ⟨"java/util/ArrayList", "add", "(Ljava/lang/Object;)Z"⟩ ⟨"java/util/ArrayList", "add", "(Ljava/lang/Object;)Z"⟩) ∈ lw_G := x_gw (inT_3 _ (List.mem_of_getElem? (i := 33) rfl)) rfl
theorem gw_754 : (Cond.code ⟨"java/util/ArrayList", "add", "(Ljava/lang/Object;)Z"⟩ prog_50_method_25_code 2 (some .boolean)) ∈ lw_G := x_gw (inT_3 _ (List.mem_of_getElem? (i := 34) rfl)) rfl
theorem gw_755 : (Cond.methodLink "java/util/ArrayList" 131 ⟨"java/util/ArrayList", "add", "(Ljava/lang/Object;[Ljava/lang/Object;I)V"⟩) ∈ lw_G := x_gw (inT_3 _ (List.mem_of_getElem? (i := 35) rfl)) rfl
theorem gw_757 : (Cond.instanceMethod ⟨"java/util/ArrayList", "add", "(Ljava/lang/Object;[Ljava/lang/Object;I)V"⟩) ∈ lw_G := x_gw (inT_3 _ (List.mem_of_getElem? (i := 37) rfl)) rfl
theorem gw_758 : (Cond.code ⟨"java/util/ArrayList", "add", "(Ljava/lang/Object;[Ljava/lang/Object;I)V"⟩ prog_50_method_24_code 4 none) ∈ lw_G := x_gw (inT_3 _ (List.mem_of_getElem? (i := 38) rfl)) rfl
theorem gw_759 : (Cond.methodLink "java/util/ArrayList" 129 ⟨"java/util/ArrayList", "grow", "()[Ljava/lang/Object;"⟩) ∈ lw_G := x_gw (inT_3 _ (List.mem_of_getElem? (i := 39) rfl)) rfl
theorem gw_761 : (Cond.instanceMethod ⟨"java/util/ArrayList", "grow", "()[Ljava/lang/Object;"⟩) ∈ lw_G := x_gw (inT_3 _ (List.mem_of_getElem? (i := 41) rfl)) rfl
theorem gw_762 : (Cond.code ⟨"java/util/ArrayList", "grow", "()[Ljava/lang/Object;"⟩ prog_50_method_7_code 1 (some (.array (.object "java/lang/Object")))) ∈ lw_G := x_gw (inT_3 _ (List.mem_of_getElem? (i := 42) rfl)) rfl
theorem gw_763 : (Cond.methodLink "java/util/ArrayList" 69 ⟨"java/util/ArrayList", "grow", "(I)[Ljava/lang/Object;"⟩) ∈ lw_G := x_gw (inT_3 _ (List.mem_of_getElem? (i := 43) rfl)) rfl
theorem gw_765 : (Cond.instanceMethod ⟨"java/util/ArrayList", "grow", "(I)[Ljava/lang/Object;"⟩) ∈ lw_G := x_gw (inT_3 _ (List.mem_of_getElem? (i := 45) rfl)) rfl
theorem gw_766 : (Cond.code ⟨"java/util/ArrayList", "grow", "(I)[Ljava/lang/Object;"⟩ prog_50_method_6_code 4 (some (.array (.object "java/lang/Object")))) ∈ lw_G := x_gw (inT_3 _ (List.mem_of_getElem? (i := 46) rfl)) rfl
theorem gw_767 : (Cond.methodLink "java/util/ArrayList" 73 ⟨"jdk/internal/util/ArraysSupport", "newLength", "(III)I"⟩) ∈ lw_G := x_gw (inT_3 _ (List.mem_of_getElem? (i := 47) rfl)) rfl
theorem gw_768 : (Cond.static ⟨"jdk/internal/util/ArraysSupport", "newLength", "(III)I"⟩) ∈ lw_G := x_gw (inT_3 _ (List.mem_of_getElem? (i := 48) rfl)) rfl
theorem gw_769 : (Cond.code ⟨"jdk/internal/util/ArraysSupport", "newLength", "(III)I"⟩ prog_58_method_27_code 4 (some .int)) ∈ lw_G := x_gw (inT_3 _ (List.mem_of_getElem? (i := 49) rfl)) rfl
theorem gw_770 : (Cond.methodLink "jdk/internal/util/ArraysSupport" 194 ⟨"java/lang/Math", "max", "(II)I"⟩) ∈ lw_G := x_gw (inT_3 _ (List.mem_of_getElem? (i := 50) rfl)) rfl
theorem gw_771 : (Cond.static ⟨"java/lang/Math", "max", "(II)I"⟩) ∈ lw_G := x_gw (inT_3 _ (List.mem_of_getElem? (i := 51) rfl)) rfl
theorem gw_772 : (Cond.code ⟨"java/lang/Math", "max", "(II)I"⟩ prog_38_method_65_code 2 (some .int)) ∈ lw_G := x_gw (inT_3 _ (List.mem_of_getElem? (i := 52) rfl)) rfl
theorem gw_773 : (Cond.constant "jdk/internal/util/ArraysSupport" 200 (2147483639)) ∈ lw_G := x_gw (inT_3 _ (List.mem_of_getElem? (i := 53) rfl)) rfl
theorem gw_774 : (Cond.methodLink "jdk/internal/util/ArraysSupport" 201 ⟨"jdk/internal/util/ArraysSupport", "hugeLength", "(II)I"⟩) ∈ lw_G := x_gw (inT_3 _ (List.mem_of_getElem? (i := 54) rfl)) rfl
theorem gw_775 : (Cond.static ⟨"jdk/internal/util/ArraysSupport", "hugeLength", "(II)I"⟩) ∈ lw_G := x_gw (inT_3 _ (List.mem_of_getElem? (i := 55) rfl)) rfl
theorem gw_776 : (Cond.code ⟨"jdk/internal/util/ArraysSupport", "hugeLength", "(II)I"⟩ prog_58_method_28_code 3 (some .int)) ∈ lw_G := x_gw (inT_3 _ (List.mem_of_getElem? (i := 56) rfl)) rfl
theorem gw_777 : (Cond.methodLink "java/util/ArrayList" 66 ⟨"java/util/Arrays", "copyOf", "([Ljava/lang/Object;I)[Ljava/lang/Object;"⟩) ∈ lw_G := x_gw (inT_3 _ (List.mem_of_getElem? (i := 57) rfl)) rfl
theorem gw_778 : (Cond.static ⟨"java/util/Arrays", "copyOf", "([Ljava/lang/Object;I)[Ljava/lang/Object;"⟩) ∈ lw_G := x_gw (inT_3 _ (List.mem_of_getElem? (i := 58) rfl)) rfl
theorem gw_779 : (Cond.code ⟨"java/util/Arrays", "copyOf", "([Ljava/lang/Object;I)[Ljava/lang/Object;"⟩ prog_51_method_119_code 2 (some (.array (.object "java/lang/Object")))) ∈ lw_G := x_gw (inT_3 _ (List.mem_of_getElem? (i := 59) rfl)) rfl
theorem gw_818 : (Cond.methodLink "java/util/Arrays" 300 ⟨"java/util/Arrays", "copyOf", "([Ljava/lang/Object;ILjava/lang/Class;)[Ljava/lang/Object;"⟩) ∈ lw_G := x_gw (inT_3 _ (List.mem_of_getElem? (i := 98) rfl)) rfl
theorem gw_819 : (Cond.static ⟨"java/util/Arrays", "copyOf", "([Ljava/lang/Object;ILjava/lang/Class;)[Ljava/lang/Object;"⟩) ∈ lw_G := x_gw (inT_3 _ (List.mem_of_getElem? (i := 99) rfl)) rfl
theorem gw_820 : (Cond.code ⟨"java/util/Arrays", "copyOf", "([Ljava/lang/Object;ILjava/lang/Class;)[Ljava/lang/Object;"⟩ prog_51_method_120_code 4 (some (.array (.object "java/lang/Object")))) ∈ lw_G := x_gw (inT_3 _ (List.mem_of_getElem? (i := 100) rfl)) rfl
theorem gw_823 : (Cond.classLink "java/util/Arrays" 2 "java/lang/Object") ∈ lw_G := x_gw (inT_3 _ (List.mem_of_getElem? (i := 103) rfl)) rfl
theorem gw_824 : (Cond.methodLink "java/util/Arrays" 304 ⟨"java/lang/Math", "min", "(II)I"⟩) ∈ lw_G := x_gw (inT_3 _ (List.mem_of_getElem? (i := 104) rfl)) rfl
theorem gw_825 : (Cond.static ⟨"java/lang/Math", "min", "(II)I"⟩) ∈ lw_G := x_gw (inT_3 _ (List.mem_of_getElem? (i := 105) rfl)) rfl
theorem gw_826 : (Cond.code ⟨"java/lang/Math", "min", "(II)I"⟩ prog_38_method_69_code 2 (some .int)) ∈ lw_G := x_gw (inT_3 _ (List.mem_of_getElem? (i := 106) rfl)) rfl
theorem gw_830 : (Cond.methodLink "java/util/ArrayList" 79 ⟨"java/lang/Math", "max", "(II)I"⟩) ∈ lw_G := x_gw (inT_3 _ (List.mem_of_getElem? (i := 110) rfl)) rfl
theorem gw_831 : (Cond.classLink "java/util/ArrayList" 7 "java/lang/Object") ∈ lw_G := x_gw (inT_3 _ (List.mem_of_getElem? (i := 111) rfl)) rfl
theorem gw_832 : (Cond.methodLink "RelayHall" 401 ⟨"RelayHall", "takeNoFrame", "(LRelayHall$Connection;)V"⟩) ∈ lw_G := x_gw (inT_3 _ (List.mem_of_getElem? (i := 112) rfl)) rfl
theorem gw_834 : (Cond.instanceMethod ⟨"RelayHall", "takeNoFrame", "(LRelayHall$Connection;)V"⟩) ∈ lw_G := x_gw (inT_3 _ (List.mem_of_getElem? (i := 114) rfl)) rfl
theorem gw_835 : (Cond.code ⟨"RelayHall", "takeNoFrame", "(LRelayHall$Connection;)V"⟩ prog_1_method_43_code 2 none) ∈ lw_G := x_gw (inT_3 _ (List.mem_of_getElem? (i := 115) rfl)) rfl
theorem gw_836 : (Cond.methodLink "RelayHall" 366 ⟨"RelayHall", "hard", "(LRelayHall$Connection;I)V"⟩) ∈ lw_G := x_gw (inT_3 _ (List.mem_of_getElem? (i := 116) rfl)) rfl
theorem gw_838 : (Cond.instanceMethod ⟨"RelayHall", "hard", "(LRelayHall$Connection;I)V"⟩) ∈ lw_G := x_gw (inT_3 _ (List.mem_of_getElem? (i := 118) rfl)) rfl
theorem gw_839 : (Cond.code ⟨"RelayHall", "hard", "(LRelayHall$Connection;I)V"⟩ prog_1_method_35_code 3 none) ∈ lw_G := x_gw (inT_3 _ (List.mem_of_getElem? (i := 119) rfl)) rfl
theorem gw_840 : (Cond.constant "RelayHall" 354 (655410)) ∈ lw_G := x_gw (inT_3 _ (List.mem_of_getElem? (i := 120) rfl)) rfl
theorem gw_841 : (Cond.methodLink "RelayHall" 355 ⟨"RelayHall", "draftError", "(LRelayHall$Connection;III)V"⟩) ∈ lw_G := x_gw (inT_3 _ (List.mem_of_getElem? (i := 121) rfl)) rfl
theorem gw_843 : (Cond.instanceMethod ⟨"RelayHall", "draftError", "(LRelayHall$Connection;III)V"⟩) ∈ lw_G := x_gw (inT_3 _ (List.mem_of_getElem? (i := 123) rfl)) rfl
theorem gw_844 : (Cond.code ⟨"RelayHall", "draftError", "(LRelayHall$Connection;III)V"⟩ prog_1_method_34_code 5 none) ∈ lw_G := x_gw (inT_3 _ (List.mem_of_getElem? (i := 124) rfl)) rfl
theorem gw_845 : (Cond.methodLink "RelayHall" 404 ⟨"RelayHall", "takeWhileClosing", "(LRelayHall$Connection;)V"⟩) ∈ lw_G := x_gw (inT_3 _ (List.mem_of_getElem? (i := 125) rfl)) rfl
theorem gw_847 : (Cond.instanceMethod ⟨"RelayHall", "takeWhileClosing", "(LRelayHall$Connection;)V"⟩) ∈ lw_G := x_gw (inT_3 _ (List.mem_of_getElem? (i := 127) rfl)) rfl
theorem gw_848 : (Cond.code ⟨"RelayHall", "takeWhileClosing", "(LRelayHall$Connection;)V"⟩ prog_1_method_44_code 2 none) ∈ lw_G := x_gw (inT_3 _ (List.mem_of_getElem? (i := 128) rfl)) rfl
theorem gw_849 : (Cond.methodLink "RelayHall" 427 ⟨"RelayHall$Connection", "frameChannel", "()I"⟩) ∈ lw_G := x_gw (inT_3 _ (List.mem_of_getElem? (i := 129) rfl)) rfl
theorem gw_850 : (Cond.instanceMethod ⟨"RelayHall$Connection", "frameChannel", "()I"⟩) ∈ lw_G := x_gw (inT_3 _ (List.mem_of_getElem? (i := 130) rfl)) rfl
theorem gw_851 : (Cond.selects "RelayHall$Connection" ⟨"RelayHall$Connection", "frameChannel", "()I"⟩ ⟨"RelayHall$Connection", "frameChannel", "()I"⟩) ∈ lw_G := x_gw (inT_3 _ (List.mem_of_getElem? (i := 131) rfl)) rfl
theorem gw_852 : (Cond.code ⟨"RelayHall$Connection", "frameChannel", "()I"⟩ prog_4_method_9_code 1 (some .int)) ∈ lw_G := x_gw (inT_3 _ (List.mem_of_getElem? (i := 132) rfl)) rfl
theorem gw_853 : (Cond.methodLink "RelayHall" 430 ⟨"RelayHall$Connection", "frameMethod", "()I"⟩) ∈ lw_G := x_gw (inT_3 _ (List.mem_of_getElem? (i := 133) rfl)) rfl
theorem gw_854 : (Cond.instanceMethod ⟨"RelayHall$Connection", "frameMethod", "()I"⟩) ∈ lw_G := x_gw (inT_3 _ (List.mem_of_getElem? (i := 134) rfl)) rfl
theorem gw_855 : (Cond.selects "RelayHall$Connection" ⟨"RelayHall$Connection", "frameMethod", "()I"⟩ ⟨"RelayHall$Connection", "frameMethod", "()I"⟩) ∈ lw_G := x_gw (inT_3 _ (List.mem_of_getElem? (i := 135) rfl)) rfl
theorem gw_856 : (Cond.code ⟨"RelayHall$Connection", "frameMethod", "()I"⟩ prog_4_method_11_code 1 (some .int)) ∈ lw_G := x_gw (inT_3 _ (List.mem_of_getElem? (i := 136) rfl)) rfl
theorem gw_857 : (Cond.constantLong "RelayHall$Connection" 85 (4)) ∈ lw_G := x_gw (inT_3 _ (List.mem_of_getElem? (i := 137) rfl)) rfl
theorem gw_858 : (Cond.constant "RelayHall" 433 (655411)) ∈ lw_G := x_gw (inT_3 _ (List.mem_of_getElem? (i := 138) rfl)) rfl
theorem gw_859 : (Cond.methodLink "RelayHall" 434 ⟨"RelayHall", "answer", "(LRelayHall$Channel;I)V"⟩) ∈ lw_G := x_gw (inT_3 _ (List.mem_of_getElem? (i := 139) rfl)) rfl
theorem gw_861 : (Cond.instanceMethod ⟨"RelayHall", "answer", "(LRelayHall$Channel;I)V"⟩) ∈ lw_G := x_gw (inT_3 _ (List.mem_of_getElem? (i := 141) rfl)) rfl
theorem gw_862 : (Cond.code ⟨"RelayHall", "answer", "(LRelayHall$Channel;I)V"⟩ prog_1_method_31_code 3 none) ∈ lw_G := x_gw (inT_3 _ (List.mem_of_getElem? (i := 142) rfl)) rfl
theorem gw_863 : (Cond.methodLink "RelayHall" 407 ⟨"RelayHall$Connection", "isIdleBeat", "()Z"⟩) ∈ lw_G := x_gw (inT_3 _ (List.mem_of_getElem? (i := 143) rfl)) rfl
theorem gw_864 : (Cond.instanceMethod ⟨"RelayHall$Connection", "isIdleBeat", "()Z"⟩) ∈ lw_G := x_gw (inT_3 _ (List.mem_of_getElem? (i := 144) rfl)) rfl
theorem gw_865 : (Cond.selects "RelayHall$Connection" ⟨"RelayHall$Connection", "isIdleBeat", "()Z"⟩ ⟨"RelayHall$Connection", "isIdleBeat", "()Z"⟩) ∈ lw_G := x_gw (inT_3 _ (List.mem_of_getElem? (i := 145) rfl)) rfl
theorem gw_866 : (Cond.code ⟨"RelayHall$Connection", "isIdleBeat", "()Z"⟩ prog_4_method_8_code 1 (some .boolean)) ∈ lw_G := x_gw (inT_3 _ (List.mem_of_getElem? (i := 146) rfl)) rfl
theorem gw_867 : (Cond.methodLink "RelayHall$Connection" 79 ⟨"RelayHall$Connection", "frameChannel", "()I"⟩) ∈ lw_G := x_gw (inT_3 _ (List.mem_of_getElem? (i := 147) rfl)) rfl
theorem gw_868 : (Cond.methodLink "RelayHall" 410 ⟨"RelayHall", "shakeHands", "(LRelayHall$Connection;)V"⟩) ∈ lw_G := x_gw (inT_3 _ (List.mem_of_getElem? (i := 148) rfl)) rfl
theorem gw_870 : (Cond.instanceMethod ⟨"RelayHall", "shakeHands", "(LRelayHall$Connection;)V"⟩) ∈ lw_G := x_gw (inT_3 _ (List.mem_of_getElem? (i := 150) rfl)) rfl
theorem gw_871 : (Cond.code ⟨"RelayHall", "shakeHands", "(LRelayHall$Connection;)V"⟩ prog_1_method_45_code 3 none) ∈ lw_G := x_gw (inT_3 _ (List.mem_of_getElem? (i := 151) rfl)) rfl
theorem gw_872 : (Cond.methodLink "RelayHall" 438 ⟨"RelayHall$Reader", "over", "([BII)V"⟩) ∈ lw_G := x_gw (inT_3 _ (List.mem_of_getElem? (i := 152) rfl)) rfl
theorem gw_873 : (Cond.instanceMethod ⟨"RelayHall$Reader", "over", "([BII)V"⟩) ∈ lw_G := x_gw (inT_3 _ (List.mem_of_getElem? (i := 153) rfl)) rfl
theorem gw_874 : (Cond.selects "RelayHall$Reader" ⟨"RelayHall$Reader", "over", "([BII)V"⟩ ⟨"RelayHall$Reader", "over", "([BII)V"⟩) ∈ lw_G := x_gw (inT_3 _ (List.mem_of_getElem? (i := 154) rfl)) rfl
theorem gw_875 : (Cond.code ⟨"RelayHall$Reader", "over", "([BII)V"⟩ prog_11_method_2_code 4 none) ∈ lw_G := x_gw (inT_3 _ (List.mem_of_getElem? (i := 155) rfl)) rfl
theorem gw_876 : (Cond.constant "RelayHall" 442 (655371)) ∈ lw_G := x_gw (inT_3 _ (List.mem_of_getElem? (i := 156) rfl)) rfl
theorem gw_877 : (Cond.methodLink "RelayHall" 443 ⟨"RelayHall", "takeStart", "(LRelayHall$Connection;)V"⟩) ∈ lw_G := x_gw (inT_3 _ (List.mem_of_getElem? (i := 157) rfl)) rfl
theorem gw_879 : (Cond.instanceMethod ⟨"RelayHall", "takeStart", "(LRelayHall$Connection;)V"⟩) ∈ lw_G := x_gw (inT_3 _ (List.mem_of_getElem? (i := 159) rfl)) rfl
theorem gw_880 : (Cond.code ⟨"RelayHall", "takeStart", "(LRelayHall$Connection;)V"⟩ prog_1_method_46_code 2 none) ∈ lw_G := x_gw (inT_3 _ (List.mem_of_getElem? (i := 160) rfl)) rfl
theorem gw_881 : (Cond.methodLink "RelayHall" 454 ⟨"RelayHall$Reader", "shortText", "()Ljava/lang/String;"⟩) ∈ lw_G := x_gw (inT_3 _ (List.mem_of_getElem? (i := 161) rfl)) rfl
theorem gw_882 : (Cond.instanceMethod ⟨"RelayHall$Reader", "shortText", "()Ljava/lang/String;"⟩) ∈ lw_G := x_gw (inT_3 _ (List.mem_of_getElem? (i := 162) rfl)) rfl
theorem gw_883 : (Cond.selects "RelayHall$Reader" ⟨"RelayHall$Reader", "shortText", "()Ljava/lang/String;"⟩ ⟨"RelayHall$Reader", "shortText", "()Ljava/lang/String;"⟩) ∈ lw_G := x_gw (inT_3 _ (List.mem_of_getElem? (i := 163) rfl)) rfl
theorem gw_884 : (Cond.code ⟨"RelayHall$Reader", "shortText", "()Ljava/lang/String;"⟩ prog_11_method_8_code 1 (some (.object "java/lang/String"))) ∈ lw_G := x_gw (inT_3 _ (List.mem_of_getElem? (i := 164) rfl)) rfl
theorem gw_885 : (Cond.methodLink "RelayHall$Reader" 37 ⟨"RelayHall$Reader", "u8", "()I"⟩) ∈ lw_G := x_gw (inT_3 _ (List.mem_of_getElem? (i := 165) rfl)) rfl
theorem gw_886 : (Cond.instanceMethod ⟨"RelayHall$Reader", "u8", "()I"⟩) ∈ lw_G := x_gw (inT_3 _ (List.mem_of_getElem? (i := 166) rfl)) rfl
theorem gw_887 : (Cond.selects "RelayHall$Reader" ⟨"RelayHall$Reader", "u8", "()I"⟩ ⟨"RelayHall$Reader", "u8", "()I"⟩) ∈ lw_G := x_gw (inT_3 _ (List.mem_of_getElem? (i := 167) rfl)) rfl
theorem gw_888 : (Cond.code ⟨"RelayHall$Reader", "u8", "()I"⟩ prog_11_method_4_code 1 (some .int)) ∈ lw_G := x_gw (inT_3 _ (List.mem_of_getElem? (i := 168) rfl)) rfl
theorem gw_889 : (Cond.methodLink "RelayHall$Reader" 26 ⟨"RelayHall$Reader", "number", "(I)J"⟩) ∈ lw_G := x_gw (inT_3 _ (List.mem_of_getElem? (i := 169) rfl)) rfl
theorem gw_890 : (Cond.instanceMethod ⟨"RelayHall$Reader", "number", "(I)J"⟩) ∈ lw_G := x_gw (inT_3 _ (List.mem_of_getElem? (i := 170) rfl)) rfl
theorem gw_891 : (Cond.selects "RelayHall$Reader" ⟨"RelayHall$Reader", "number", "(I)J"⟩ ⟨"RelayHall$Reader", "number", "(I)J"⟩) ∈ lw_G := x_gw (inT_3 _ (List.mem_of_getElem? (i := 171) rfl)) rfl
theorem gw_892 : (Cond.code ⟨"RelayHall$Reader", "number", "(I)J"⟩ prog_11_method_3_code 5 (some .long)) ∈ lw_G := x_gw (inT_3 _ (List.mem_of_getElem? (i := 172) rfl)) rfl
theorem gw_893 : (Cond.methodLink "RelayHall$Reader" 41 ⟨"RelayHall$Reader", "text", "(JI)Ljava/lang/String;"⟩) ∈ lw_G := x_gw (inT_3 _ (List.mem_of_getElem? (i := 173) rfl)) rfl
theorem gw_894 : (Cond.instanceMethod ⟨"RelayHall$Reader", "text", "(JI)Ljava/lang/String;"⟩) ∈ lw_G := x_gw (inT_3 _ (List.mem_of_getElem? (i := 174) rfl)) rfl
theorem gw_895 : (Cond.selects "RelayHall$Reader" ⟨"RelayHall$Reader", "text", "(JI)Ljava/lang/String;"⟩ ⟨"RelayHall$Reader", "text", "(JI)Ljava/lang/String;"⟩) ∈ lw_G := x_gw (inT_3 _ (List.mem_of_getElem? (i := 175) rfl)) rfl
theorem gw_896 : (Cond.code ⟨"RelayHall$Reader", "text", "(JI)Ljava/lang/String;"⟩ prog_11_method_7_code 6 (some (.object "java/lang/String"))) ∈ lw_G := x_gw (inT_3 _ (List.mem_of_getElem? (i := 176) rfl)) rfl
theorem gw_898 : (Cond.classLink "RelayHall$Reader" 32 "java/lang/String") ∈ lw_G := x_gw (inT_3 _ (List.mem_of_getElem? (i := 178) rfl)) rfl
theorem gw_899 : (Cond.instantiable "java/lang/String" 4) ∈ lw_G := x_gw (inT_3 _ (List.mem_of_getElem? (i := 179) rfl)) rfl
theorem gw_900 : (Cond.methodLink "RelayHall$Reader" 34 ⟨"java/lang/String", "<init>", "([C)V"⟩) ∈ lw_G := x_gw (inT_3 _ (List.mem_of_getElem? (i := 180) rfl)) rfl
theorem gw_901 : (Cond.instanceMethod ⟨"java/lang/String", "<init>", "([C)V"⟩) ∈ lw_G := x_gw (inT_3 _ (List.mem_of_getElem? (i := 181) rfl)) rfl
theorem gw_902 : (Cond.code ⟨"java/lang/String", "<init>", "([C)V"⟩ prog_41_method_3_code 2 none) ∈ lw_G := x_gw (inT_3 _ (List.mem_of_getElem? (i := 182) rfl)) rfl
theorem gw_903 : (Cond.methodLink "java/lang/String" 27 ⟨"java/lang/String", "<init>", "([CIILjava/lang/Void;)V"⟩) ∈ lw_G := x_gw (inT_3 _ (List.mem_of_getElem? (i := 183) rfl)) rfl
theorem gw_904 : (Cond.instanceMethod ⟨"java/lang/String", "<init>", "([CIILjava/lang/Void;)V"⟩) ∈ lw_G := x_gw (inT_3 _ (List.mem_of_getElem? (i := 184) rfl)) rfl
theorem gw_905 : (Cond.code ⟨"java/lang/String", "<init>", "([CIILjava/lang/Void;)V"⟩ prog_41_method_149_code 6 none) ∈ lw_G := x_gw (inT_3 _ (List.mem_of_getElem? (i := 185) rfl)) rfl
theorem gw_906 : (Cond.methodLink "java/lang/String" 1 ⟨"java/lang/Object", "<init>", "()V"⟩) ∈ lw_G := x_gw (inT_3 _ (List.mem_of_getElem? (i := 186) rfl)) rfl
theorem gw_908 : (Cond.fieldLink "java/lang/String" 38 "java/lang/String" "COMPACT_STRINGS" "Z") ∈ lw_G := x_gw (inT_3 _ (List.mem_of_getElem? (i := 188) rfl)) rfl
theorem gw_909 : (Cond.methodLink "java/lang/String" 177 ⟨"java/lang/StringUTF16", "compress", "([CII)[B"⟩) ∈ lw_G := x_gw (inT_3 _ (List.mem_of_getElem? (i := 189) rfl)) rfl
theorem gw_910 : (Cond.static ⟨"java/lang/StringUTF16", "compress", "([CII)[B"⟩) ∈ lw_G := x_gw (inT_3 _ (List.mem_of_getElem? (i := 190) rfl)) rfl
theorem gw_911 : (Cond.code ⟨"java/lang/StringUTF16", "compress", "([CII)[B"⟩ prog_45_method_16_code 6 (some (.array .byte))) ∈ lw_G := x_gw (inT_3 _ (List.mem_of_getElem? (i := 191) rfl)) rfl
theorem gw_912 : (Cond.methodLink "java/lang/StringUTF16" 115 ⟨"java/lang/StringUTF16", "compress", "([CI[BII)I"⟩) ∈ lw_G := x_gw (inT_3 _ (List.mem_of_getElem? (i := 192) rfl)) rfl
theorem gw_913 : (Cond.static ⟨"java/lang/StringUTF16", "compress", "([CI[BII)I"⟩) ∈ lw_G := x_gw (inT_3 _ (List.mem_of_getElem? (i := 193) rfl)) rfl
theorem gw_914 : (Cond.code ⟨"java/lang/StringUTF16", "compress", "([CI[BII)I"⟩ prog_45_method_21_code 7 (some .int)) ∈ lw_G := x_gw (inT_3 _ (List.mem_of_getElem? (i := 194) rfl)) rfl
theorem gw_915 : (Cond.methodLink "java/lang/StringUTF16" 119 ⟨"java/lang/StringUTF16", "toBytes", "([CII)[B"⟩) ∈ lw_G := x_gw (inT_3 _ (List.mem_of_getElem? (i := 195) rfl)) rfl
theorem gw_916 : (Cond.static ⟨"java/lang/StringUTF16", "toBytes", "([CII)[B"⟩) ∈ lw_G := x_gw (inT_3 _ (List.mem_of_getElem? (i := 196) rfl)) rfl
theorem gw_917 : (Cond.code ⟨"java/lang/StringUTF16", "toBytes", "([CII)[B"⟩ prog_45_method_14_code 5 (some (.array .byte))) ∈ lw_G := x_gw (inT_3 _ (List.mem_of_getElem? (i := 197) rfl)) rfl
theorem gw_918 : (Cond.methodLink "java/lang/StringUTF16" 107 ⟨"java/lang/StringUTF16", "newBytesFor", "(I)[B"⟩) ∈ lw_G := x_gw (inT_3 _ (List.mem_of_getElem? (i := 198) rfl)) rfl
theorem gw_919 : (Cond.methodLink "java/lang/StringUTF16" 111 ⟨"java/lang/StringUTF16", "putChar", "([BII)V"⟩) ∈ lw_G := x_gw (inT_3 _ (List.mem_of_getElem? (i := 199) rfl)) rfl
theorem gw_920 : (Cond.static ⟨"java/lang/StringUTF16", "putChar", "([BII)V"⟩) ∈ lw_G := x_gw (inT_3 _ (List.mem_of_getElem? (i := 200) rfl)) rfl
theorem gw_921 : (Cond.code ⟨"java/lang/StringUTF16", "putChar", "([BII)V"⟩ prog_45_method_4_code 3 none) ∈ lw_G := x_gw (inT_3 _ (List.mem_of_getElem? (i := 201) rfl)) rfl
theorem gw_924 : (Cond.methodLink "java/lang/StringUTF16" 48 ⟨"java/lang/StringUTF16", "length", "([B)I"⟩) ∈ lw_G := x_gw (inT_3 _ (List.mem_of_getElem? (i := 204) rfl)) rfl
theorem gw_925 : (Cond.static ⟨"java/lang/StringUTF16", "length", "([B)I"⟩) ∈ lw_G := x_gw (inT_3 _ (List.mem_of_getElem? (i := 205) rfl)) rfl
theorem gw_926 : (Cond.code ⟨"java/lang/StringUTF16", "length", "([B)I"⟩ prog_45_method_6_code 1 (some .int)) ∈ lw_G := x_gw (inT_3 _ (List.mem_of_getElem? (i := 206) rfl)) rfl
theorem gw_931 : (Cond.methodLink "java/lang/StringUTF16" 71 ⟨"java/lang/StringUTF16", "getChar", "([BI)C"⟩) ∈ lw_G := x_gw (inT_3 _ (List.mem_of_getElem? (i := 211) rfl)) rfl
theorem gw_932 : (Cond.static ⟨"java/lang/StringUTF16", "getChar", "([BI)C"⟩) ∈ lw_G := x_gw (inT_3 _ (List.mem_of_getElem? (i := 212) rfl)) rfl
theorem gw_933 : (Cond.code ⟨"java/lang/StringUTF16", "getChar", "([BI)C"⟩ prog_45_method_5_code 2 (some .char)) ∈ lw_G := x_gw (inT_3 _ (List.mem_of_getElem? (i := 213) rfl)) rfl
theorem gw_934 : (Cond.methodLink "java/lang/StringUTF16" 123 ⟨"java/lang/StringUTF16", "compress", "([BI[BII)I"⟩) ∈ lw_G := x_gw (inT_3 _ (List.mem_of_getElem? (i := 214) rfl)) rfl
theorem gw_935 : (Cond.static ⟨"java/lang/StringUTF16", "compress", "([BI[BII)I"⟩) ∈ lw_G := x_gw (inT_3 _ (List.mem_of_getElem? (i := 215) rfl)) rfl
theorem gw_936 : (Cond.code ⟨"java/lang/StringUTF16", "compress", "([BI[BII)I"⟩ prog_45_method_22_code 7 (some .int)) ∈ lw_G := x_gw (inT_3 _ (List.mem_of_getElem? (i := 216) rfl)) rfl
theorem gw_937 : (Cond.methodLink "java/lang/StringUTF16" 173 ⟨"java/lang/StringUTF16", "checkBoundsOffCount", "(II[B)V"⟩) ∈ lw_G := x_gw (inT_3 _ (List.mem_of_getElem? (i := 217) rfl)) rfl
theorem gw_938 : (Cond.static ⟨"java/lang/StringUTF16", "checkBoundsOffCount", "(II[B)V"⟩) ∈ lw_G := x_gw (inT_3 _ (List.mem_of_getElem? (i := 218) rfl)) rfl
theorem gw_939 : (Cond.code ⟨"java/lang/StringUTF16", "checkBoundsOffCount", "(II[B)V"⟩ prog_45_method_94_code 3 none) ∈ lw_G := x_gw (inT_3 _ (List.mem_of_getElem? (i := 219) rfl)) rfl
theorem gw_940 : (Cond.methodLink "java/lang/StringUTF16" 419 ⟨"java/lang/String", "checkBoundsOffCount", "(III)I"⟩) ∈ lw_G := x_gw (inT_3 _ (List.mem_of_getElem? (i := 220) rfl)) rfl
theorem gw_941 : (Cond.static ⟨"java/lang/String", "checkBoundsOffCount", "(III)I"⟩) ∈ lw_G := x_gw (inT_3 _ (List.mem_of_getElem? (i := 221) rfl)) rfl
theorem gw_942 : (Cond.code ⟨"java/lang/String", "checkBoundsOffCount", "(III)I"⟩ prog_41_method_157_code 3 (some .int)) ∈ lw_G := x_gw (inT_3 _ (List.mem_of_getElem? (i := 222) rfl)) rfl
theorem gw_945 : (Cond.methodLink "java/lang/String" 1065 ⟨"jdk/internal/util/Preconditions", "checkFromIndexSize", "(IIILjava/util/function/BiFunction;)I"⟩) ∈ lw_G := x_gw (inT_3 _ (List.mem_of_getElem? (i := 225) rfl)) rfl
theorem gw_946 : (Cond.static ⟨"jdk/internal/util/Preconditions", "checkFromIndexSize", "(IIILjava/util/function/BiFunction;)I"⟩) ∈ lw_G := x_gw (inT_3 _ (List.mem_of_getElem? (i := 226) rfl)) rfl
theorem gw_947 : (Cond.code ⟨"jdk/internal/util/Preconditions", "checkFromIndexSize", "(IIILjava/util/function/BiFunction;)I"⟩ prog_59_method_13_code 4 (some .int)) ∈ lw_G := x_gw (inT_3 _ (List.mem_of_getElem? (i := 227) rfl)) rfl
theorem gw_948 : (Cond.methodLink "java/lang/String" 47 ⟨"java/lang/StringUTF16", "coderFromArrayLen", "([BI)B"⟩) ∈ lw_G := x_gw (inT_3 _ (List.mem_of_getElem? (i := 228) rfl)) rfl
theorem gw_949 : (Cond.static ⟨"java/lang/StringUTF16", "coderFromArrayLen", "([BI)B"⟩) ∈ lw_G := x_gw (inT_3 _ (List.mem_of_getElem? (i := 229) rfl)) rfl
theorem gw_950 : (Cond.code ⟨"java/lang/StringUTF16", "coderFromArrayLen", "([BI)B"⟩ prog_45_method_15_code 2 (some .byte)) ∈ lw_G := x_gw (inT_3 _ (List.mem_of_getElem? (i := 230) rfl)) rfl
theorem gw_951 : (Cond.methodLink "java/lang/String" 180 ⟨"java/lang/StringUTF16", "toBytes", "([CII)[B"⟩) ∈ lw_G := x_gw (inT_3 _ (List.mem_of_getElem? (i := 231) rfl)) rfl
theorem gw_952 : (Cond.fieldLink "java/lang/String" 9 "java/lang/String" "value" "[B") ∈ lw_G := x_gw (inT_3 _ (List.mem_of_getElem? (i := 232) rfl)) rfl
theorem gw_953 : (Cond.fieldLink "java/lang/String" 15 "java/lang/String" "coder" "B") ∈ lw_G := x_gw (inT_3 _ (List.mem_of_getElem? (i := 233) rfl)) rfl
theorem gw_963 : (Cond.arrayClass .char) ∈ lw_G := x_gw (inT_4 _ (List.mem_of_getElem? (i := 3) rfl)) rfl
theorem gw_964 : (Cond.methodLink "RelayHall" 363 ⟨"RelayHall$Reader", "done", "()Z"⟩) ∈ lw_G := x_gw (inT_4 _ (List.mem_of_getElem? (i := 4) rfl)) rfl
theorem gw_965 : (Cond.instanceMethod ⟨"RelayHall$Reader", "done", "()Z"⟩) ∈ lw_G := x_gw (inT_4 _ (List.mem_of_getElem? (i := 5) rfl)) rfl
theorem gw_966 : (Cond.selects "RelayHall$Reader" ⟨"RelayHall$Reader", "done", "()Z"⟩ ⟨"RelayHall$Reader", "done", "()Z"⟩) ∈ lw_G := x_gw (inT_4 _ (List.mem_of_getElem? (i := 6) rfl)) rfl
theorem gw_967 : (Cond.code ⟨"RelayHall$Reader", "done", "()Z"⟩ prog_11_method_11_code 1 (some .boolean)) ∈ lw_G := x_gw (inT_4 _ (List.mem_of_getElem? (i := 7) rfl)) rfl
theorem gw_968 : (Cond.constant "RelayHall" 458 (655390)) ∈ lw_G := x_gw (inT_4 _ (List.mem_of_getElem? (i := 8) rfl)) rfl
theorem gw_969 : (Cond.constantLong "RelayHall" 459 (3)) ∈ lw_G := x_gw (inT_4 _ (List.mem_of_getElem? (i := 9) rfl)) rfl
theorem gw_970 : (Cond.constantLong "RelayHall" 461 (400)) ∈ lw_G := x_gw (inT_4 _ (List.mem_of_getElem? (i := 10) rfl)) rfl
theorem gw_971 : (Cond.constantLong "RelayHall" 463 (30)) ∈ lw_G := x_gw (inT_4 _ (List.mem_of_getElem? (i := 11) rfl)) rfl
theorem gw_972 : (Cond.constant "RelayHall" 446 (655391)) ∈ lw_G := x_gw (inT_4 _ (List.mem_of_getElem? (i := 12) rfl)) rfl
theorem gw_973 : (Cond.methodLink "RelayHall" 447 ⟨"RelayHall", "takeTuning", "(LRelayHall$Connection;)V"⟩) ∈ lw_G := x_gw (inT_4 _ (List.mem_of_getElem? (i := 13) rfl)) rfl
theorem gw_975 : (Cond.instanceMethod ⟨"RelayHall", "takeTuning", "(LRelayHall$Connection;)V"⟩) ∈ lw_G := x_gw (inT_4 _ (List.mem_of_getElem? (i := 15) rfl)) rfl
theorem gw_976 : (Cond.code ⟨"RelayHall", "takeTuning", "(LRelayHall$Connection;)V"⟩ prog_1_method_47_code 6 none) ∈ lw_G := x_gw (inT_4 _ (List.mem_of_getElem? (i := 16) rfl)) rfl
theorem gw_977 : (Cond.methodLink "RelayHall" 465 ⟨"RelayHall$Reader", "u16", "()I"⟩) ∈ lw_G := x_gw (inT_4 _ (List.mem_of_getElem? (i := 17) rfl)) rfl
theorem gw_978 : (Cond.instanceMethod ⟨"RelayHall$Reader", "u16", "()I"⟩) ∈ lw_G := x_gw (inT_4 _ (List.mem_of_getElem? (i := 18) rfl)) rfl
theorem gw_979 : (Cond.selects "RelayHall$Reader" ⟨"RelayHall$Reader", "u16", "()I"⟩ ⟨"RelayHall$Reader", "u16", "()I"⟩) ∈ lw_G := x_gw (inT_4 _ (List.mem_of_getElem? (i := 19) rfl)) rfl
theorem gw_980 : (Cond.code ⟨"RelayHall$Reader", "u16", "()I"⟩ prog_11_method_5_code 1 (some .int)) ∈ lw_G := x_gw (inT_4 _ (List.mem_of_getElem? (i := 20) rfl)) rfl
theorem gw_981 : (Cond.methodLink "RelayHall" 468 ⟨"RelayHall$Reader", "u32", "()J"⟩) ∈ lw_G := x_gw (inT_4 _ (List.mem_of_getElem? (i := 21) rfl)) rfl
theorem gw_982 : (Cond.instanceMethod ⟨"RelayHall$Reader", "u32", "()J"⟩) ∈ lw_G := x_gw (inT_4 _ (List.mem_of_getElem? (i := 22) rfl)) rfl
theorem gw_983 : (Cond.selects "RelayHall$Reader" ⟨"RelayHall$Reader", "u32", "()J"⟩ ⟨"RelayHall$Reader", "u32", "()J"⟩) ∈ lw_G := x_gw (inT_4 _ (List.mem_of_getElem? (i := 23) rfl)) rfl
theorem gw_984 : (Cond.code ⟨"RelayHall$Reader", "u32", "()J"⟩ prog_11_method_6_code 1 (some .long)) ∈ lw_G := x_gw (inT_4 _ (List.mem_of_getElem? (i := 24) rfl)) rfl
theorem gw_985 : (Cond.constant "RelayHall" 450 (655400)) ∈ lw_G := x_gw (inT_4 _ (List.mem_of_getElem? (i := 25) rfl)) rfl
theorem gw_986 : (Cond.methodLink "RelayHall" 451 ⟨"RelayHall", "takeOpening", "(LRelayHall$Connection;)V"⟩) ∈ lw_G := x_gw (inT_4 _ (List.mem_of_getElem? (i := 26) rfl)) rfl
theorem gw_988 : (Cond.instanceMethod ⟨"RelayHall", "takeOpening", "(LRelayHall$Connection;)V"⟩) ∈ lw_G := x_gw (inT_4 _ (List.mem_of_getElem? (i := 28) rfl)) rfl
theorem gw_989 : (Cond.code ⟨"RelayHall", "takeOpening", "(LRelayHall$Connection;)V"⟩ prog_1_method_48_code 2 none) ∈ lw_G := x_gw (inT_4 _ (List.mem_of_getElem? (i := 29) rfl)) rfl
theorem gw_990 : (Cond.constant "RelayHall" 472 (655401)) ∈ lw_G := x_gw (inT_4 _ (List.mem_of_getElem? (i := 30) rfl)) rfl
theorem gw_991 : (Cond.methodLink "RelayHall" 476 ⟨"RelayHall", "takeWhileEnding", "(LRelayHall$Channel;)V"⟩) ∈ lw_G := x_gw (inT_4 _ (List.mem_of_getElem? (i := 31) rfl)) rfl
theorem gw_993 : (Cond.instanceMethod ⟨"RelayHall", "takeWhileEnding", "(LRelayHall$Channel;)V"⟩) ∈ lw_G := x_gw (inT_4 _ (List.mem_of_getElem? (i := 33) rfl)) rfl
theorem gw_994 : (Cond.code ⟨"RelayHall", "takeWhileEnding", "(LRelayHall$Channel;)V"⟩ prog_1_method_50_code 2 none) ∈ lw_G := x_gw (inT_4 _ (List.mem_of_getElem? (i := 34) rfl)) rfl
theorem gw_995 : (Cond.constant "RelayHall" 362 (1310760)) ∈ lw_G := x_gw (inT_4 _ (List.mem_of_getElem? (i := 35) rfl)) rfl
theorem gw_996 : (Cond.constant "RelayHall" 482 (1310761)) ∈ lw_G := x_gw (inT_4 _ (List.mem_of_getElem? (i := 36) rfl)) rfl
theorem gw_997 : (Cond.methodLink "RelayHall" 479 ⟨"RelayHall", "faultOf", "(LRelayHall$Channel;)I"⟩) ∈ lw_G := x_gw (inT_4 _ (List.mem_of_getElem? (i := 37) rfl)) rfl
theorem gw_999 : (Cond.instanceMethod ⟨"RelayHall", "faultOf", "(LRelayHall$Channel;)I"⟩) ∈ lw_G := x_gw (inT_4 _ (List.mem_of_getElem? (i := 39) rfl)) rfl
theorem gw_1000 : (Cond.code ⟨"RelayHall", "faultOf", "(LRelayHall$Channel;)I"⟩ prog_1_method_51_code 3 (some .int)) ∈ lw_G := x_gw (inT_4 _ (List.mem_of_getElem? (i := 40) rfl)) rfl
theorem gw_1001 : (Cond.methodLink "RelayHall" 483 ⟨"RelayHall$Connection", "frameSize", "()J"⟩) ∈ lw_G := x_gw (inT_4 _ (List.mem_of_getElem? (i := 41) rfl)) rfl
theorem gw_1002 : (Cond.constantLong "RelayHall" 486 (4)) ∈ lw_G := x_gw (inT_4 _ (List.mem_of_getElem? (i := 42) rfl)) rfl
theorem gw_1003 : (Cond.methodLink "RelayHall" 488 ⟨"RelayHall", "faultOfMethod", "(LRelayHall$Channel;)I"⟩) ∈ lw_G := x_gw (inT_4 _ (List.mem_of_getElem? (i := 43) rfl)) rfl
theorem gw_1005 : (Cond.instanceMethod ⟨"RelayHall", "faultOfMethod", "(LRelayHall$Channel;)I"⟩) ∈ lw_G := x_gw (inT_4 _ (List.mem_of_getElem? (i := 45) rfl)) rfl
theorem gw_1006 : (Cond.code ⟨"RelayHall", "faultOfMethod", "(LRelayHall$Channel;)I"⟩ prog_1_method_52_code 3 (some .int)) ∈ lw_G := x_gw (inT_4 _ (List.mem_of_getElem? (i := 46) rfl)) rfl
theorem gw_1007 : (Cond.constant "RelayHall" 494 (1310730)) ∈ lw_G := x_gw (inT_4 _ (List.mem_of_getElem? (i := 47) rfl)) rfl
theorem gw_1008 : (Cond.methodLink "RelayHall" 135 ⟨"RelayHall", "perform", "(LRelayHall$Channel;)V"⟩) ∈ lw_G := x_gw (inT_4 _ (List.mem_of_getElem? (i := 48) rfl)) rfl
theorem gw_1010 : (Cond.instanceMethod ⟨"RelayHall", "perform", "(LRelayHall$Channel;)V"⟩) ∈ lw_G := x_gw (inT_4 _ (List.mem_of_getElem? (i := 50) rfl)) rfl
theorem gw_1011 : (Cond.code ⟨"RelayHall", "perform", "(LRelayHall$Channel;)V"⟩ prog_1_method_53_code 2 none) ∈ lw_G := x_gw (inT_4 _ (List.mem_of_getElem? (i := 51) rfl)) rfl
theorem gw_1012 : (Cond.methodLink "RelayHall" 495 ⟨"RelayHall", "closeHall", "(LRelayHall$Channel;)V"⟩) ∈ lw_G := x_gw (inT_4 _ (List.mem_of_getElem? (i := 52) rfl)) rfl
theorem gw_1014 : (Cond.instanceMethod ⟨"RelayHall", "closeHall", "(LRelayHall$Channel;)V"⟩) ∈ lw_G := x_gw (inT_4 _ (List.mem_of_getElem? (i := 54) rfl)) rfl
theorem gw_1015 : (Cond.code ⟨"RelayHall", "closeHall", "(LRelayHall$Channel;)V"⟩ prog_1_method_55_code 2 none) ∈ lw_G := x_gw (inT_4 _ (List.mem_of_getElem? (i := 55) rfl)) rfl
theorem gw_1016 : (Cond.methodLink "RelayHall" 560 ⟨"RelayHall", "skipCloseArguments", "()V"⟩) ∈ lw_G := x_gw (inT_4 _ (List.mem_of_getElem? (i := 56) rfl)) rfl
theorem gw_1018 : (Cond.instanceMethod ⟨"RelayHall", "skipCloseArguments", "()V"⟩) ∈ lw_G := x_gw (inT_4 _ (List.mem_of_getElem? (i := 58) rfl)) rfl
theorem gw_1019 : (Cond.code ⟨"RelayHall", "skipCloseArguments", "()V"⟩ prog_1_method_54_code 1 none) ∈ lw_G := x_gw (inT_4 _ (List.mem_of_getElem? (i := 59) rfl)) rfl
theorem gw_1020 : (Cond.methodLink "RelayHall" 563 ⟨"RelayHall", "argumentsEnd", "(LRelayHall$Channel;)Z"⟩) ∈ lw_G := x_gw (inT_4 _ (List.mem_of_getElem? (i := 60) rfl)) rfl
theorem gw_1022 : (Cond.instanceMethod ⟨"RelayHall", "argumentsEnd", "(LRelayHall$Channel;)Z"⟩) ∈ lw_G := x_gw (inT_4 _ (List.mem_of_getElem? (i := 62) rfl)) rfl
theorem gw_1023 : (Cond.code ⟨"RelayHall", "argumentsEnd", "(LRelayHall$Channel;)Z"⟩ prog_1_method_37_code 2 (some .boolean)) ∈ lw_G := x_gw (inT_4 _ (List.mem_of_getElem? (i := 63) rfl)) rfl
theorem gw_1024 : (Cond.methodLink "RelayHall" 498 ⟨"RelayHall", "openChannel", "(LRelayHall$Channel;)V"⟩) ∈ lw_G := x_gw (inT_4 _ (List.mem_of_getElem? (i := 64) rfl)) rfl
theorem gw_1026 : (Cond.instanceMethod ⟨"RelayHall", "openChannel", "(LRelayHall$Channel;)V"⟩) ∈ lw_G := x_gw (inT_4 _ (List.mem_of_getElem? (i := 66) rfl)) rfl
theorem gw_1027 : (Cond.code ⟨"RelayHall", "openChannel", "(LRelayHall$Channel;)V"⟩ prog_1_method_56_code 2 none) ∈ lw_G := x_gw (inT_4 _ (List.mem_of_getElem? (i := 67) rfl)) rfl
theorem gw_1028 : (Cond.methodLink "RelayHall" 567 ⟨"RelayHall$Channel", "restart", "()V"⟩) ∈ lw_G := x_gw (inT_4 _ (List.mem_of_getElem? (i := 68) rfl)) rfl
theorem gw_1029 : (Cond.instanceMethod ⟨"RelayHall$Channel", "restart", "()V"⟩) ∈ lw_G := x_gw (inT_4 _ (List.mem_of_getElem? (i := 69) rfl)) rfl
theorem gw_1030 : (Cond.selects "RelayHall$Channel" ⟨"RelayHall$Channel", "restart", "()V"⟩ ⟨"RelayHall$Channel", "restart", "()V"⟩) ∈ lw_G := x_gw (inT_4 _ (List.mem_of_getElem? (i := 70) rfl)) rfl
theorem gw_1031 : (Cond.code ⟨"RelayHall$Channel", "restart", "()V"⟩ prog_3_method_2_code 1 none) ∈ lw_G := x_gw (inT_4 _ (List.mem_of_getElem? (i := 71) rfl)) rfl
theorem gw_1032 : (Cond.methodLink "RelayHall$Channel" 86 ⟨"RelayHall$Channel", "forget", "()V"⟩) ∈ lw_G := x_gw (inT_4 _ (List.mem_of_getElem? (i := 72) rfl)) rfl
theorem gw_1033 : (Cond.instanceMethod ⟨"RelayHall$Channel", "forget", "()V"⟩) ∈ lw_G := x_gw (inT_4 _ (List.mem_of_getElem? (i := 73) rfl)) rfl
theorem gw_1034 : (Cond.selects "RelayHall$Channel" ⟨"RelayHall$Channel", "forget", "()V"⟩ ⟨"RelayHall$Channel", "forget", "()V"⟩) ∈ lw_G := x_gw (inT_4 _ (List.mem_of_getElem? (i := 74) rfl)) rfl
theorem gw_1035 : (Cond.code ⟨"RelayHall$Channel", "forget", "()V"⟩ prog_3_method_3_code 1 none) ∈ lw_G := x_gw (inT_4 _ (List.mem_of_getElem? (i := 75) rfl)) rfl
theorem gw_1036 : (Cond.methodLink "RelayHall$Channel" 89 ⟨"java/util/ArrayList", "clear", "()V"⟩) ∈ lw_G := x_gw (inT_4 _ (List.mem_of_getElem? (i := 76) rfl)) rfl
theorem gw_1037 : (Cond.instanceMethod ⟨"java/util/ArrayList", "clear", "()V"⟩) ∈ lw_G := x_gw (inT_4 _ (List.mem_of_getElem? (i := 77) rfl)) rfl
theorem gw_1038 : (Cond.selects "java/util/ArrayList" ⟨"java/util/ArrayList", "clear", "()V"⟩ ⟨"java/util/ArrayList", "clear", "()V"⟩) ∈ lw_G := x_gw (inT_4 _ (List.mem_of_getElem? (i := 78) rfl)) rfl
theorem gw_1039 : (Cond.code ⟨"java/util/ArrayList", "clear", "()V"⟩ prog_50_method_40_code 4 none) ∈ lw_G := x_gw (inT_4 _ (List.mem_of_getElem? (i := 79) rfl)) rfl
theorem gw_1040 : (Cond.constant "RelayHall" 569 (1310731)) ∈ lw_G := x_gw (inT_4 _ (List.mem_of_getElem? (i := 80) rfl)) rfl
theorem gw_1041 : (Cond.methodLink "RelayHall" 501 ⟨"RelayHall", "flow", "(LRelayHall$Channel;)V"⟩) ∈ lw_G := x_gw (inT_4 _ (List.mem_of_getElem? (i := 81) rfl)) rfl
theorem gw_1043 : (Cond.instanceMethod ⟨"RelayHall", "flow", "(LRelayHall$Channel;)V"⟩) ∈ lw_G := x_gw (inT_4 _ (List.mem_of_getElem? (i := 83) rfl)) rfl
theorem gw_1044 : (Cond.code ⟨"RelayHall", "flow", "(LRelayHall$Channel;)V"⟩ prog_1_method_57_code 3 none) ∈ lw_G := x_gw (inT_4 _ (List.mem_of_getElem? (i := 84) rfl)) rfl
theorem gw_1045 : (Cond.methodLink "RelayHall" 570 ⟨"RelayHall$Reader", "u8", "()I"⟩) ∈ lw_G := x_gw (inT_4 _ (List.mem_of_getElem? (i := 85) rfl)) rfl
theorem gw_1046 : (Cond.constant "RelayHall" 576 (1310741)) ∈ lw_G := x_gw (inT_4 _ (List.mem_of_getElem? (i := 86) rfl)) rfl
theorem gw_1047 : (Cond.methodLink "RelayHall" 504 ⟨"RelayHall", "closeChannel", "(LRelayHall$Channel;)V"⟩) ∈ lw_G := x_gw (inT_4 _ (List.mem_of_getElem? (i := 87) rfl)) rfl
theorem gw_1049 : (Cond.instanceMethod ⟨"RelayHall", "closeChannel", "(LRelayHall$Channel;)V"⟩) ∈ lw_G := x_gw (inT_4 _ (List.mem_of_getElem? (i := 89) rfl)) rfl
theorem gw_1050 : (Cond.code ⟨"RelayHall", "closeChannel", "(LRelayHall$Channel;)V"⟩ prog_1_method_58_code 2 none) ∈ lw_G := x_gw (inT_4 _ (List.mem_of_getElem? (i := 90) rfl)) rfl
theorem gw_1051 : (Cond.methodLink "RelayHall" 507 ⟨"RelayHall", "declareExchange", "(LRelayHall$Channel;)V"⟩) ∈ lw_G := x_gw (inT_4 _ (List.mem_of_getElem? (i := 91) rfl)) rfl
theorem gw_1053 : (Cond.instanceMethod ⟨"RelayHall", "declareExchange", "(LRelayHall$Channel;)V"⟩) ∈ lw_G := x_gw (inT_4 _ (List.mem_of_getElem? (i := 93) rfl)) rfl
theorem gw_1054 : (Cond.code ⟨"RelayHall", "declareExchange", "(LRelayHall$Channel;)V"⟩ prog_1_method_59_code 7 none) ∈ lw_G := x_gw (inT_4 _ (List.mem_of_getElem? (i := 94) rfl)) rfl
theorem gw_1055 : (Cond.methodLink "RelayHall" 577 ⟨"RelayHall$Reader", "table", "()LRelayHall$Table;"⟩) ∈ lw_G := x_gw (inT_4 _ (List.mem_of_getElem? (i := 95) rfl)) rfl
theorem gw_1056 : (Cond.instanceMethod ⟨"RelayHall$Reader", "table", "()LRelayHall$Table;"⟩) ∈ lw_G := x_gw (inT_4 _ (List.mem_of_getElem? (i := 96) rfl)) rfl
theorem gw_1057 : (Cond.selects "RelayHall$Reader" ⟨"RelayHall$Reader", "table", "()LRelayHall$Table;"⟩ ⟨"RelayHall$Reader", "table", "()LRelayHall$Table;"⟩) ∈ lw_G := x_gw (inT_4 _ (List.mem_of_getElem? (i := 97) rfl)) rfl
theorem gw_1058 : (Cond.code ⟨"RelayHall$Reader", "table", "()LRelayHall$Table;"⟩ prog_11_method_9_code 2 (some (.object "RelayHall$Table"))) ∈ lw_G := x_gw (inT_4 _ (List.mem_of_getElem? (i := 98) rfl)) rfl
theorem gw_1059 : (Cond.classLink "RelayHall$Reader" 45 "RelayHall$Table") ∈ lw_G := x_gw (inT_4 _ (List.mem_of_getElem? (i := 99) rfl)) rfl
theorem gw_1060 : (Cond.instantiable "RelayHall$Table" 4) ∈ lw_G := x_gw (inT_4 _ (List.mem_of_getElem? (i := 100) rfl)) rfl
theorem gw_1061 : (Cond.methodLink "RelayHall$Reader" 47 ⟨"RelayHall$Reader", "u32", "()J"⟩) ∈ lw_G := x_gw (inT_4 _ (List.mem_of_getElem? (i := 101) rfl)) rfl
theorem gw_1062 : (Cond.methodLink "RelayHall$Reader" 51 ⟨"RelayHall$Table", "<init>", "(Ljava/lang/String;)V"⟩) ∈ lw_G := x_gw (inT_4 _ (List.mem_of_getElem? (i := 102) rfl)) rfl
theorem gw_1063 : (Cond.instanceMethod ⟨"RelayHall$Table", "<init>", "(Ljava/lang/String;)V"⟩) ∈ lw_G := x_gw (inT_4 _ (List.mem_of_getElem? (i := 103) rfl)) rfl
theorem gw_1064 : (Cond.code ⟨"RelayHall$Table", "<init>", "(Ljava/lang/String;)V"⟩ prog_12_method_1_code 2 none) ∈ lw_G := x_gw (inT_4 _ (List.mem_of_getElem? (i := 104) rfl)) rfl
theorem gw_1065 : (Cond.methodLink "RelayHall$Table" 3 ⟨"java/lang/Object", "<init>", "()V"⟩) ∈ lw_G := x_gw (inT_4 _ (List.mem_of_getElem? (i := 105) rfl)) rfl
theorem gw_1066 : (Cond.methodLink "RelayHall$Table" 19 ⟨"java/lang/String", "length", "()I"⟩) ∈ lw_G := x_gw (inT_4 _ (List.mem_of_getElem? (i := 106) rfl)) rfl
theorem gw_1067 : (Cond.instanceMethod ⟨"java/lang/String", "length", "()I"⟩) ∈ lw_G := x_gw (inT_4 _ (List.mem_of_getElem? (i := 107) rfl)) rfl
theorem gw_1068 : (Cond.selects "java/lang/String" ⟨"java/lang/String", "length", "()I"⟩ ⟨"java/lang/String", "length", "()I"⟩) ∈ lw_G := x_gw (inT_4 _ (List.mem_of_getElem? (i := 108) rfl)) rfl
theorem gw_1069 : (Cond.code ⟨"java/lang/String", "length", "()I"⟩ prog_41_method_54_code 1 (some .int)) ∈ lw_G := x_gw (inT_4 _ (List.mem_of_getElem? (i := 109) rfl)) rfl
theorem gw_1070 : (Cond.methodLink "java/lang/String" 335 ⟨"java/lang/String", "coder", "()B"⟩) ∈ lw_G := x_gw (inT_4 _ (List.mem_of_getElem? (i := 110) rfl)) rfl
theorem gw_1071 : (Cond.instanceMethod ⟨"java/lang/String", "coder", "()B"⟩) ∈ lw_G := x_gw (inT_4 _ (List.mem_of_getElem? (i := 111) rfl)) rfl
theorem gw_1072 : (Cond.selects "java/lang/String" ⟨"java/lang/String", "coder", "()B"⟩ ⟨"java/lang/String", "coder", "()B"⟩) ∈ lw_G := x_gw (inT_4 _ (List.mem_of_getElem? (i := 112) rfl)) rfl
theorem gw_1073 : (Cond.code ⟨"java/lang/String", "coder", "()B"⟩ prog_41_method_152_code 1 (some .byte)) ∈ lw_G := x_gw (inT_4 _ (List.mem_of_getElem? (i := 113) rfl)) rfl
theorem gw_1074 : (Cond.fieldLink "RelayHall$Table" 15 "RelayHall$Table" "raw" "Ljava/lang/String;") ∈ lw_G := x_gw (inT_4 _ (List.mem_of_getElem? (i := 114) rfl)) rfl
theorem gw_1075 : (Cond.fieldLink "RelayHall" 815 "RelayHall$Table" "raw" "Ljava/lang/String;") ∈ lw_G := x_gw (inT_4 _ (List.mem_of_getElem? (i := 115) rfl)) rfl
theorem gw_1076 : (Cond.fieldLink "RelayHall$Table" 9 "RelayHall$Table" "count" "I") ∈ lw_G := x_gw (inT_4 _ (List.mem_of_getElem? (i := 116) rfl)) rfl
theorem gw_1077 : (Cond.fieldLink "RelayHall$Binding" 87 "RelayHall$Table" "count" "I") ∈ lw_G := x_gw (inT_4 _ (List.mem_of_getElem? (i := 117) rfl)) rfl
theorem gw_1078 : (Cond.fieldLink "RelayHall$Table" 25 "RelayHall$Table" "from" "[I") ∈ lw_G := x_gw (inT_4 _ (List.mem_of_getElem? (i := 118) rfl)) rfl
theorem gw_1079 : (Cond.fieldLink "RelayHall$Table" 29 "RelayHall$Table" "to" "[I") ∈ lw_G := x_gw (inT_4 _ (List.mem_of_getElem? (i := 119) rfl)) rfl
theorem gw_1089 : (Cond.methodLink "RelayHall$Reader" 54 ⟨"RelayHall$Table", "scan", "()Z"⟩) ∈ lw_G := x_gw (inT_4 _ (List.mem_of_getElem? (i := 129) rfl)) rfl
theorem gw_1090 : (Cond.instanceMethod ⟨"RelayHall$Table", "scan", "()Z"⟩) ∈ lw_G := x_gw (inT_4 _ (List.mem_of_getElem? (i := 130) rfl)) rfl
theorem gw_1091 : (Cond.selects "RelayHall$Table" ⟨"RelayHall$Table", "scan", "()Z"⟩ ⟨"RelayHall$Table", "scan", "()Z"⟩) ∈ lw_G := x_gw (inT_4 _ (List.mem_of_getElem? (i := 131) rfl)) rfl
theorem gw_1092 : (Cond.code ⟨"RelayHall$Table", "scan", "()Z"⟩ prog_12_method_2_code 6 (some .boolean)) ∈ lw_G := x_gw (inT_4 _ (List.mem_of_getElem? (i := 132) rfl)) rfl
theorem gw_1093 : (Cond.methodLink "RelayHall$Table" 32 ⟨"java/lang/String", "charAt", "(I)C"⟩) ∈ lw_G := x_gw (inT_4 _ (List.mem_of_getElem? (i := 133) rfl)) rfl
theorem gw_1094 : (Cond.instanceMethod ⟨"java/lang/String", "charAt", "(I)C"⟩) ∈ lw_G := x_gw (inT_4 _ (List.mem_of_getElem? (i := 134) rfl)) rfl
theorem gw_1095 : (Cond.selects "java/lang/String" ⟨"java/lang/String", "charAt", "(I)C"⟩ ⟨"java/lang/String", "charAt", "(I)C"⟩) ∈ lw_G := x_gw (inT_4 _ (List.mem_of_getElem? (i := 135) rfl)) rfl
theorem gw_1096 : (Cond.code ⟨"java/lang/String", "charAt", "(I)C"⟩ prog_41_method_56_code 2 (some .char)) ∈ lw_G := x_gw (inT_4 _ (List.mem_of_getElem? (i := 136) rfl)) rfl
theorem gw_1097 : (Cond.methodLink "java/lang/String" 492 ⟨"java/lang/String", "isLatin1", "()Z"⟩) ∈ lw_G := x_gw (inT_4 _ (List.mem_of_getElem? (i := 137) rfl)) rfl
theorem gw_1098 : (Cond.instanceMethod ⟨"java/lang/String", "isLatin1", "()Z"⟩) ∈ lw_G := x_gw (inT_4 _ (List.mem_of_getElem? (i := 138) rfl)) rfl
theorem gw_1099 : (Cond.selects "java/lang/String" ⟨"java/lang/String", "isLatin1", "()Z"⟩ ⟨"java/lang/String", "isLatin1", "()Z"⟩) ∈ lw_G := x_gw (inT_4 _ (List.mem_of_getElem? (i := 139) rfl)) rfl
theorem gw_1100 : (Cond.code ⟨"java/lang/String", "isLatin1", "()Z"⟩ prog_41_method_154_code 1 (some .boolean)) ∈ lw_G := x_gw (inT_4 _ (List.mem_of_getElem? (i := 140) rfl)) rfl
theorem gw_1101 : (Cond.methodLink "java/lang/String" 495 ⟨"java/lang/StringLatin1", "charAt", "([BI)C"⟩) ∈ lw_G := x_gw (inT_4 _ (List.mem_of_getElem? (i := 141) rfl)) rfl
theorem gw_1102 : (Cond.static ⟨"java/lang/StringLatin1", "charAt", "([BI)C"⟩) ∈ lw_G := x_gw (inT_4 _ (List.mem_of_getElem? (i := 142) rfl)) rfl
theorem gw_1103 : (Cond.code ⟨"java/lang/StringLatin1", "charAt", "([BI)C"⟩ prog_44_method_2_code 2 (some .char)) ∈ lw_G := x_gw (inT_4 _ (List.mem_of_getElem? (i := 143) rfl)) rfl
theorem gw_1104 : (Cond.methodLink "java/lang/StringLatin1" 9 ⟨"java/lang/String", "checkIndex", "(II)V"⟩) ∈ lw_G := x_gw (inT_4 _ (List.mem_of_getElem? (i := 144) rfl)) rfl
theorem gw_1105 : (Cond.static ⟨"java/lang/String", "checkIndex", "(II)V"⟩) ∈ lw_G := x_gw (inT_4 _ (List.mem_of_getElem? (i := 145) rfl)) rfl
theorem gw_1106 : (Cond.code ⟨"java/lang/String", "checkIndex", "(II)V"⟩ prog_41_method_155_code 2 none) ∈ lw_G := x_gw (inT_4 _ (List.mem_of_getElem? (i := 146) rfl)) rfl
theorem gw_1107 : (Cond.methodLink "java/lang/String" 1059 ⟨"jdk/internal/util/Preconditions", "checkIndex", "(IILjava/util/function/BiFunction;)I"⟩) ∈ lw_G := x_gw (inT_4 _ (List.mem_of_getElem? (i := 147) rfl)) rfl
theorem gw_1108 : (Cond.static ⟨"jdk/internal/util/Preconditions", "checkIndex", "(IILjava/util/function/BiFunction;)I"⟩) ∈ lw_G := x_gw (inT_4 _ (List.mem_of_getElem? (i := 148) rfl)) rfl
theorem gw_1109 : (Cond.code ⟨"jdk/internal/util/Preconditions", "checkIndex", "(IILjava/util/function/BiFunction;)I"⟩ prog_59_method_11_code 3 (some .int)) ∈ lw_G := x_gw (inT_4 _ (List.mem_of_getElem? (i := 149) rfl)) rfl
theorem gw_1110 : (Cond.methodLink "java/lang/String" 498 ⟨"java/lang/StringUTF16", "charAt", "([BI)C"⟩) ∈ lw_G := x_gw (inT_4 _ (List.mem_of_getElem? (i := 150) rfl)) rfl
theorem gw_1111 : (Cond.static ⟨"java/lang/StringUTF16", "charAt", "([BI)C"⟩) ∈ lw_G := x_gw (inT_4 _ (List.mem_of_getElem? (i := 151) rfl)) rfl
theorem gw_1112 : (Cond.code ⟨"java/lang/StringUTF16", "charAt", "([BI)C"⟩ prog_45_method_83_code 2 (some .char)) ∈ lw_G := x_gw (inT_4 _ (List.mem_of_getElem? (i := 152) rfl)) rfl
theorem gw_1113 : (Cond.methodLink "java/lang/StringUTF16" 67 ⟨"java/lang/StringUTF16", "checkIndex", "(I[B)V"⟩) ∈ lw_G := x_gw (inT_4 _ (List.mem_of_getElem? (i := 153) rfl)) rfl
theorem gw_1114 : (Cond.static ⟨"java/lang/StringUTF16", "checkIndex", "(I[B)V"⟩) ∈ lw_G := x_gw (inT_4 _ (List.mem_of_getElem? (i := 154) rfl)) rfl
theorem gw_1115 : (Cond.code ⟨"java/lang/StringUTF16", "checkIndex", "(I[B)V"⟩ prog_45_method_91_code 2 none) ∈ lw_G := x_gw (inT_4 _ (List.mem_of_getElem? (i := 155) rfl)) rfl
theorem gw_1116 : (Cond.methodLink "java/lang/StringUTF16" 414 ⟨"java/lang/String", "checkIndex", "(II)V"⟩) ∈ lw_G := x_gw (inT_4 _ (List.mem_of_getElem? (i := 156) rfl)) rfl
theorem gw_1117 : (Cond.methodLink "RelayHall$Table" 36 ⟨"RelayHall$Table", "endOfValue", "(I)I"⟩) ∈ lw_G := x_gw (inT_4 _ (List.mem_of_getElem? (i := 157) rfl)) rfl
theorem gw_1119 : (Cond.instanceMethod ⟨"RelayHall$Table", "endOfValue", "(I)I"⟩) ∈ lw_G := x_gw (inT_4 _ (List.mem_of_getElem? (i := 159) rfl)) rfl
theorem gw_1120 : (Cond.code ⟨"RelayHall$Table", "endOfValue", "(I)I"⟩ prog_12_method_3_code 5 (some .int)) ∈ lw_G := x_gw (inT_4 _ (List.mem_of_getElem? (i := 160) rfl)) rfl
theorem gw_1121 : (Cond.methodLink "RelayHall$Table" 48 ⟨"RelayHall$Table", "numberAt", "(I)I"⟩) ∈ lw_G := x_gw (inT_4 _ (List.mem_of_getElem? (i := 161) rfl)) rfl
theorem gw_1123 : (Cond.instanceMethod ⟨"RelayHall$Table", "numberAt", "(I)I"⟩) ∈ lw_G := x_gw (inT_4 _ (List.mem_of_getElem? (i := 163) rfl)) rfl
theorem gw_1124 : (Cond.code ⟨"RelayHall$Table", "numberAt", "(I)I"⟩ prog_12_method_4_code 4 (some .int)) ∈ lw_G := x_gw (inT_4 _ (List.mem_of_getElem? (i := 164) rfl)) rfl
theorem gw_1125 : (Cond.methodLink "RelayHall$Table" 40 ⟨"java/lang/String", "substring", "(II)Ljava/lang/String;"⟩) ∈ lw_G := x_gw (inT_4 _ (List.mem_of_getElem? (i := 165) rfl)) rfl
theorem gw_1126 : (Cond.instanceMethod ⟨"java/lang/String", "substring", "(II)Ljava/lang/String;"⟩) ∈ lw_G := x_gw (inT_4 _ (List.mem_of_getElem? (i := 166) rfl)) rfl
theorem gw_1127 : (Cond.selects "java/lang/String" ⟨"java/lang/String", "substring", "(II)Ljava/lang/String;"⟩ ⟨"java/lang/String", "substring", "(II)Ljava/lang/String;"⟩) ∈ lw_G := x_gw (inT_4 _ (List.mem_of_getElem? (i := 167) rfl)) rfl
theorem gw_1128 : (Cond.code ⟨"java/lang/String", "substring", "(II)Ljava/lang/String;"⟩ prog_41_method_92_code 5 (some (.object "java/lang/String"))) ∈ lw_G := x_gw (inT_4 _ (List.mem_of_getElem? (i := 168) rfl)) rfl
theorem gw_1129 : (Cond.methodLink "java/lang/String" 505 ⟨"java/lang/String", "length", "()I"⟩) ∈ lw_G := x_gw (inT_4 _ (List.mem_of_getElem? (i := 169) rfl)) rfl
theorem gw_1130 : (Cond.methodLink "java/lang/String" 521 ⟨"java/lang/String", "checkBoundsBeginEnd", "(III)V"⟩) ∈ lw_G := x_gw (inT_4 _ (List.mem_of_getElem? (i := 170) rfl)) rfl
theorem gw_1131 : (Cond.static ⟨"java/lang/String", "checkBoundsBeginEnd", "(III)V"⟩) ∈ lw_G := x_gw (inT_4 _ (List.mem_of_getElem? (i := 171) rfl)) rfl
theorem gw_1132 : (Cond.code ⟨"java/lang/String", "checkBoundsBeginEnd", "(III)V"⟩ prog_41_method_158_code 3 none) ∈ lw_G := x_gw (inT_4 _ (List.mem_of_getElem? (i := 172) rfl)) rfl
theorem gw_1133 : (Cond.methodLink "java/lang/String" 1062 ⟨"jdk/internal/util/Preconditions", "checkFromToIndex", "(IIILjava/util/function/BiFunction;)I"⟩) ∈ lw_G := x_gw (inT_4 _ (List.mem_of_getElem? (i := 173) rfl)) rfl
theorem gw_1134 : (Cond.static ⟨"jdk/internal/util/Preconditions", "checkFromToIndex", "(IIILjava/util/function/BiFunction;)I"⟩) ∈ lw_G := x_gw (inT_4 _ (List.mem_of_getElem? (i := 174) rfl)) rfl
theorem gw_1135 : (Cond.code ⟨"jdk/internal/util/Preconditions", "checkFromToIndex", "(IIILjava/util/function/BiFunction;)I"⟩ prog_59_method_12_code 4 (some .int)) ∈ lw_G := x_gw (inT_4 _ (List.mem_of_getElem? (i := 175) rfl)) rfl
theorem gw_1136 : (Cond.methodLink "java/lang/String" 685 ⟨"java/lang/StringLatin1", "newString", "([BII)Ljava/lang/String;"⟩) ∈ lw_G := x_gw (inT_4 _ (List.mem_of_getElem? (i := 176) rfl)) rfl
theorem gw_1137 : (Cond.static ⟨"java/lang/StringLatin1", "newString", "([BII)Ljava/lang/String;"⟩) ∈ lw_G := x_gw (inT_4 _ (List.mem_of_getElem? (i := 177) rfl)) rfl
theorem gw_1138 : (Cond.code ⟨"java/lang/StringLatin1", "newString", "([BII)Ljava/lang/String;"⟩ prog_44_method_47_code 3 (some (.object "java/lang/String"))) ∈ lw_G := x_gw (inT_4 _ (List.mem_of_getElem? (i := 178) rfl)) rfl
theorem gw_1140 : (Cond.classLink "java/lang/StringLatin1" 1 "java/lang/String") ∈ lw_G := x_gw (inT_4 _ (List.mem_of_getElem? (i := 180) rfl)) rfl
theorem gw_1141 : (Cond.methodLink "java/lang/StringLatin1" 232 ⟨"java/util/Arrays", "copyOfRange", "([BII)[B"⟩) ∈ lw_G := x_gw (inT_4 _ (List.mem_of_getElem? (i := 181) rfl)) rfl
theorem gw_1142 : (Cond.static ⟨"java/util/Arrays", "copyOfRange", "([BII)[B"⟩) ∈ lw_G := x_gw (inT_4 _ (List.mem_of_getElem? (i := 182) rfl)) rfl
theorem gw_1143 : (Cond.code ⟨"java/util/Arrays", "copyOfRange", "([BII)[B"⟩ prog_51_method_132_code 3 (some (.array .byte))) ∈ lw_G := x_gw (inT_4 _ (List.mem_of_getElem? (i := 183) rfl)) rfl
theorem gw_1144 : (Cond.methodLink "java/util/Arrays" 339 ⟨"java/util/Arrays", "copyOfRangeByte", "([BII)[B"⟩) ∈ lw_G := x_gw (inT_4 _ (List.mem_of_getElem? (i := 184) rfl)) rfl
theorem gw_1145 : (Cond.static ⟨"java/util/Arrays", "copyOfRangeByte", "([BII)[B"⟩) ∈ lw_G := x_gw (inT_4 _ (List.mem_of_getElem? (i := 185) rfl)) rfl
theorem gw_1146 : (Cond.code ⟨"java/util/Arrays", "copyOfRangeByte", "([BII)[B"⟩ prog_51_method_133_code 5 (some (.array .byte))) ∈ lw_G := x_gw (inT_4 _ (List.mem_of_getElem? (i := 186) rfl)) rfl
theorem gw_1147 : (Cond.methodLink "java/util/Arrays" 343 ⟨"java/util/Arrays", "checkLength", "(II)V"⟩) ∈ lw_G := x_gw (inT_4 _ (List.mem_of_getElem? (i := 187) rfl)) rfl
theorem gw_1148 : (Cond.static ⟨"java/util/Arrays", "checkLength", "(II)V"⟩) ∈ lw_G := x_gw (inT_4 _ (List.mem_of_getElem? (i := 188) rfl)) rfl
theorem gw_1149 : (Cond.code ⟨"java/util/Arrays", "checkLength", "(II)V"⟩ prog_51_method_131_code 2 none) ∈ lw_G := x_gw (inT_4 _ (List.mem_of_getElem? (i := 189) rfl)) rfl
theorem gw_1150 : (Cond.classLink "java/util/Arrays" 43 "java/lang/IllegalArgumentException") ∈ lw_G := x_gw (inT_4 _ (List.mem_of_getElem? (i := 190) rfl)) rfl
theorem gw_1151 : (Cond.instantiable "java/lang/IllegalArgumentException" 6) ∈ lw_G := x_gw (inT_4 _ (List.mem_of_getElem? (i := 191) rfl)) rfl
theorem gw_1193 : (Cond.classLink "java/util/Arrays" 45 "java/lang/StringBuilder") ∈ lw_G := x_gw (inT_4 _ (List.mem_of_getElem? (i := 233) rfl)) rfl
theorem gw_1194 : (Cond.methodLink "java/util/Arrays" 47 ⟨"java/lang/StringBuilder", "<init>", "()V"⟩) ∈ lw_G := x_gw (inT_4 _ (List.mem_of_getElem? (i := 234) rfl)) rfl
theorem gw_1195 : (Cond.methodLink "java/util/Arrays" 54 ⟨"java/lang/StringBuilder", "append", "(I)Ljava/lang/StringBuilder;"⟩) ∈ lw_G := x_gw (inT_4 _ (List.mem_of_getElem? (i := 235) rfl)) rfl
theorem gw_1196 : (Cond.instanceMethod ⟨"java/lang/StringBuilder", "append", "(I)Ljava/lang/StringBuilder;"⟩) ∈ lw_G := x_gw (inT_4 _ (List.mem_of_getElem? (i := 236) rfl)) rfl
theorem gw_1197 : (Cond.selects "java/lang/StringBuilder" ⟨"java/lang/StringBuilder", "append", "(I)Ljava/lang/StringBuilder;"⟩ ⟨"java/lang/StringBuilder", "append", "(I)Ljava/lang/StringBuilder;"⟩) ∈ lw_G := x_gw (inT_4 _ (List.mem_of_getElem? (i := 237) rfl)) rfl
theorem gw_1198 : (Cond.code ⟨"java/lang/StringBuilder", "append", "(I)Ljava/lang/StringBuilder;"⟩ prog_42_method_15_code 2 (some (.object "java/lang/StringBuilder"))) ∈ lw_G := x_gw (inT_4 _ (List.mem_of_getElem? (i := 238) rfl)) rfl
theorem gw_1201 : (Cond.code ⟨"java/lang/AbstractStringBuilder", "append", "(I)Ljava/lang/AbstractStringBuilder;"⟩ prog_29_method_32_code 4 (some (.object "java/lang/AbstractStringBuilder"))) ∈ lw_G := x_gw (inT_5 _ (List.mem_of_getElem? (i := 1) rfl)) rfl
theorem gw_1202 : (Cond.methodLink "java/lang/AbstractStringBuilder" 245 ⟨"java/lang/Integer", "stringSize", "(I)I"⟩) ∈ lw_G := x_gw (inT_5 _ (List.mem_of_getElem? (i := 2) rfl)) rfl
theorem gw_1203 : (Cond.static ⟨"java/lang/Integer", "stringSize", "(I)I"⟩) ∈ lw_G := x_gw (inT_5 _ (List.mem_of_getElem? (i := 3) rfl)) rfl
theorem gw_1204 : (Cond.code ⟨"java/lang/Integer", "stringSize", "(I)I"⟩ prog_35_method_13_code 4 (some .int)) ∈ lw_G := x_gw (inT_5 _ (List.mem_of_getElem? (i := 4) rfl)) rfl
theorem gw_1213 : (Cond.methodLink "java/lang/AbstractStringBuilder" 114 ⟨"jdk/internal/util/ArraysSupport", "newLength", "(III)I"⟩) ∈ lw_G := x_gw (inT_5 _ (List.mem_of_getElem? (i := 13) rfl)) rfl
theorem gw_1214 : (Cond.constant "java/lang/AbstractStringBuilder" 39 (2147483647)) ∈ lw_G := x_gw (inT_5 _ (List.mem_of_getElem? (i := 14) rfl)) rfl
theorem gw_1215 : (Cond.methodLink "java/lang/AbstractStringBuilder" 108 ⟨"java/util/Arrays", "copyOf", "([BI)[B"⟩) ∈ lw_G := x_gw (inT_5 _ (List.mem_of_getElem? (i := 15) rfl)) rfl
theorem gw_1216 : (Cond.static ⟨"java/util/Arrays", "copyOf", "([BI)[B"⟩) ∈ lw_G := x_gw (inT_5 _ (List.mem_of_getElem? (i := 16) rfl)) rfl
theorem gw_1217 : (Cond.code ⟨"java/util/Arrays", "copyOf", "([BI)[B"⟩ prog_51_method_121_code 3 (some (.array .byte))) ∈ lw_G := x_gw (inT_5 _ (List.mem_of_getElem? (i := 17) rfl)) rfl
theorem gw_1225 : (Cond.methodLink "java/lang/AbstractStringBuilder" 83 ⟨"java/lang/AbstractStringBuilder", "isLatin1", "()Z"⟩) ∈ lw_G := x_gw (inT_5 _ (List.mem_of_getElem? (i := 25) rfl)) rfl
theorem gw_1226 : (Cond.instanceMethod ⟨"java/lang/AbstractStringBuilder", "isLatin1", "()Z"⟩) ∈ lw_G := x_gw (inT_5 _ (List.mem_of_getElem? (i := 26) rfl)) rfl
theorem gw_1228 : (Cond.selects "java/lang/StringBuilder" ⟨"java/lang/AbstractStringBuilder", "isLatin1", "()Z"⟩ ⟨"java/lang/AbstractStringBuilder", "isLatin1", "()Z"⟩) ∈ lw_G := x_gw (inT_5 _ (List.mem_of_getElem? (i := 28) rfl)) rfl
theorem gw_1229 : (Cond.code ⟨"java/lang/AbstractStringBuilder", "isLatin1", "()Z"⟩ prog_29_method_68_code 1 (some .boolean)) ∈ lw_G := x_gw (inT_5 _ (List.mem_of_getElem? (i := 29) rfl)) rfl
theorem gw_1230 : (Cond.methodLink "java/lang/AbstractStringBuilder" 248 ⟨"java/lang/Integer", "getChars", "(II[B)I"⟩) ∈ lw_G := x_gw (inT_5 _ (List.mem_of_getElem? (i := 30) rfl)) rfl
theorem gw_1231 : (Cond.static ⟨"java/lang/Integer", "getChars", "(II[B)I"⟩) ∈ lw_G := x_gw (inT_5 _ (List.mem_of_getElem? (i := 31) rfl)) rfl
theorem gw_1232 : (Cond.code ⟨"java/lang/Integer", "getChars", "(II[B)I"⟩ prog_35_method_12_code 7 (some .int)) ∈ lw_G := x_gw (inT_5 _ (List.mem_of_getElem? (i := 32) rfl)) rfl
theorem gw_1233 : (Cond.fieldLink "java/lang/Integer" 83 "java/lang/Integer" "DigitOnes" "[B") ∈ lw_G := x_gw (inT_5 _ (List.mem_of_getElem? (i := 33) rfl)) rfl
theorem gw_1235 : (Cond.fieldLink "java/lang/Integer" 87 "java/lang/Integer" "DigitTens" "[B") ∈ lw_G := x_gw (inT_5 _ (List.mem_of_getElem? (i := 35) rfl)) rfl
theorem gw_1237 : (Cond.methodLink "java/lang/AbstractStringBuilder" 251 ⟨"java/lang/StringUTF16", "getChars", "(III[B)I"⟩) ∈ lw_G := x_gw (inT_5 _ (List.mem_of_getElem? (i := 37) rfl)) rfl
theorem gw_1238 : (Cond.static ⟨"java/lang/StringUTF16", "getChars", "(III[B)I"⟩) ∈ lw_G := x_gw (inT_5 _ (List.mem_of_getElem? (i := 38) rfl)) rfl
theorem gw_1239 : (Cond.code ⟨"java/lang/StringUTF16", "getChars", "(III[B)I"⟩ prog_45_method_77_code 5 (some .int)) ∈ lw_G := x_gw (inT_5 _ (List.mem_of_getElem? (i := 39) rfl)) rfl
theorem gw_1240 : (Cond.methodLink "java/lang/StringUTF16" 96 ⟨"java/lang/StringUTF16", "checkBoundsBeginEnd", "(II[B)V"⟩) ∈ lw_G := x_gw (inT_5 _ (List.mem_of_getElem? (i := 40) rfl)) rfl
theorem gw_1241 : (Cond.static ⟨"java/lang/StringUTF16", "checkBoundsBeginEnd", "(II[B)V"⟩) ∈ lw_G := x_gw (inT_5 _ (List.mem_of_getElem? (i := 41) rfl)) rfl
theorem gw_1242 : (Cond.code ⟨"java/lang/StringUTF16", "checkBoundsBeginEnd", "(II[B)V"⟩ prog_45_method_93_code 3 none) ∈ lw_G := x_gw (inT_5 _ (List.mem_of_getElem? (i := 42) rfl)) rfl
theorem gw_1243 : (Cond.methodLink "java/lang/StringUTF16" 241 ⟨"java/lang/String", "checkBoundsBeginEnd", "(III)V"⟩) ∈ lw_G := x_gw (inT_5 _ (List.mem_of_getElem? (i := 43) rfl)) rfl
theorem gw_1244 : (Cond.methodLink "java/lang/StringUTF16" 393 ⟨"java/lang/StringUTF16", "getChars", "(II[B)I"⟩) ∈ lw_G := x_gw (inT_5 _ (List.mem_of_getElem? (i := 44) rfl)) rfl
theorem gw_1245 : (Cond.static ⟨"java/lang/StringUTF16", "getChars", "(II[B)I"⟩) ∈ lw_G := x_gw (inT_5 _ (List.mem_of_getElem? (i := 45) rfl)) rfl
theorem gw_1246 : (Cond.code ⟨"java/lang/StringUTF16", "getChars", "(II[B)I"⟩ prog_45_method_89_code 7 (some .int)) ∈ lw_G := x_gw (inT_5 _ (List.mem_of_getElem? (i := 46) rfl)) rfl
theorem gw_1247 : (Cond.fieldLink "java/lang/StringUTF16" 403 "java/lang/Integer" "DigitOnes" "[B") ∈ lw_G := x_gw (inT_5 _ (List.mem_of_getElem? (i := 47) rfl)) rfl
theorem gw_1248 : (Cond.fieldLink "java/lang/StringUTF16" 407 "java/lang/Integer" "DigitTens" "[B") ∈ lw_G := x_gw (inT_5 _ (List.mem_of_getElem? (i := 48) rfl)) rfl
theorem gw_1250 : (Cond.methodLink "java/util/Arrays" 50 ⟨"java/lang/StringBuilder", "append", "(Ljava/lang/String;)Ljava/lang/StringBuilder;"⟩) ∈ lw_G := x_gw (inT_5 _ (List.mem_of_getElem? (i := 50) rfl)) rfl
theorem gw_1251 : (Cond.instanceMethod ⟨"java/lang/StringBuilder", "append", "(Ljava/lang/String;)Ljava/lang/StringBuilder;"⟩) ∈ lw_G := x_gw (inT_5 _ (List.mem_of_getElem? (i := 51) rfl)) rfl
theorem gw_1252 : (Cond.selects "java/lang/StringBuilder" ⟨"java/lang/StringBuilder", "append", "(Ljava/lang/String;)Ljava/lang/StringBuilder;"⟩ ⟨"java/lang/StringBuilder", "append", "(Ljava/lang/String;)Ljava/lang/StringBuilder;"⟩) ∈ lw_G := x_gw (inT_5 _ (List.mem_of_getElem? (i := 52) rfl)) rfl
theorem gw_1253 : (Cond.code ⟨"java/lang/StringBuilder", "append", "(Ljava/lang/String;)Ljava/lang/StringBuilder;"⟩ prog_42_method_7_code 2 (some (.object "java/lang/StringBuilder"))) ∈ lw_G := x_gw (inT_5 _ (List.mem_of_getElem? (i := 53) rfl)) rfl
theorem gw_1256 : (Cond.code ⟨"java/lang/AbstractStringBuilder", "append", "(Ljava/lang/String;)Ljava/lang/AbstractStringBuilder;"⟩ prog_29_method_22_code 3 (some (.object "java/lang/AbstractStringBuilder"))) ∈ lw_G := x_gw (inT_5 _ (List.mem_of_getElem? (i := 56) rfl)) rfl
theorem gw_1261 : (Cond.methodLink "java/lang/AbstractStringBuilder" 226 ⟨"java/lang/StringUTF16", "putCharsAt", "([BICCCC)I"⟩) ∈ lw_G := x_gw (inT_5 _ (List.mem_of_getElem? (i := 61) rfl)) rfl
theorem gw_1262 : (Cond.static ⟨"java/lang/StringUTF16", "putCharsAt", "([BICCCC)I"⟩) ∈ lw_G := x_gw (inT_5 _ (List.mem_of_getElem? (i := 62) rfl)) rfl
theorem gw_1263 : (Cond.code ⟨"java/lang/StringUTF16", "putCharsAt", "([BICCCC)I"⟩ prog_45_method_81_code 7 (some .int)) ∈ lw_G := x_gw (inT_5 _ (List.mem_of_getElem? (i := 63) rfl)) rfl
theorem gw_1264 : (Cond.methodLink "java/lang/AbstractStringBuilder" 32 ⟨"java/lang/String", "length", "()I"⟩) ∈ lw_G := x_gw (inT_5 _ (List.mem_of_getElem? (i := 64) rfl)) rfl
theorem gw_1273 : (Cond.methodLink "java/lang/AbstractStringBuilder" 40 ⟨"java/lang/String", "coder", "()B"⟩) ∈ lw_G := x_gw (inT_5 _ (List.mem_of_getElem? (i := 73) rfl)) rfl
theorem gw_1278 : (Cond.methodLink "java/lang/AbstractStringBuilder" 125 ⟨"java/lang/StringLatin1", "inflate", "([BI[BII)V"⟩) ∈ lw_G := x_gw (inT_5 _ (List.mem_of_getElem? (i := 78) rfl)) rfl
theorem gw_1279 : (Cond.static ⟨"java/lang/StringLatin1", "inflate", "([BI[BII)V"⟩) ∈ lw_G := x_gw (inT_5 _ (List.mem_of_getElem? (i := 79) rfl)) rfl
theorem gw_1280 : (Cond.code ⟨"java/lang/StringLatin1", "inflate", "([BI[BII)V"⟩ prog_44_method_50_code 5 none) ∈ lw_G := x_gw (inT_5 _ (List.mem_of_getElem? (i := 80) rfl)) rfl
theorem gw_1281 : (Cond.methodLink "java/lang/StringLatin1" 240 ⟨"java/lang/StringUTF16", "inflate", "([BI[BII)V"⟩) ∈ lw_G := x_gw (inT_5 _ (List.mem_of_getElem? (i := 81) rfl)) rfl
theorem gw_1282 : (Cond.static ⟨"java/lang/StringUTF16", "inflate", "([BI[BII)V"⟩) ∈ lw_G := x_gw (inT_5 _ (List.mem_of_getElem? (i := 82) rfl)) rfl
theorem gw_1283 : (Cond.code ⟨"java/lang/StringUTF16", "inflate", "([BI[BII)V"⟩ prog_45_method_86_code 6 none) ∈ lw_G := x_gw (inT_5 _ (List.mem_of_getElem? (i := 83) rfl)) rfl
theorem gw_1284 : (Cond.methodLink "java/lang/AbstractStringBuilder" 399 ⟨"java/lang/String", "getBytes", "([BIB)V"⟩) ∈ lw_G := x_gw (inT_5 _ (List.mem_of_getElem? (i := 84) rfl)) rfl
theorem gw_1285 : (Cond.instanceMethod ⟨"java/lang/String", "getBytes", "([BIB)V"⟩) ∈ lw_G := x_gw (inT_5 _ (List.mem_of_getElem? (i := 85) rfl)) rfl
theorem gw_1286 : (Cond.selects "java/lang/String" ⟨"java/lang/String", "getBytes", "([BIB)V"⟩ ⟨"java/lang/String", "getBytes", "([BIB)V"⟩) ∈ lw_G := x_gw (inT_5 _ (List.mem_of_getElem? (i := 86) rfl)) rfl
theorem gw_1287 : (Cond.code ⟨"java/lang/String", "getBytes", "([BIB)V"⟩ prog_41_method_147_code 4 none) ∈ lw_G := x_gw (inT_5 _ (List.mem_of_getElem? (i := 87) rfl)) rfl
theorem gw_1289 : (Cond.methodLink "java/lang/String" 106 ⟨"java/lang/StringLatin1", "inflate", "([BI[BII)V"⟩) ∈ lw_G := x_gw (inT_5 _ (List.mem_of_getElem? (i := 89) rfl)) rfl
theorem gw_1290 : (Cond.methodLink "java/util/Arrays" 61 ⟨"java/lang/StringBuilder", "toString", "()Ljava/lang/String;"⟩) ∈ lw_G := x_gw (inT_5 _ (List.mem_of_getElem? (i := 90) rfl)) rfl
theorem gw_1291 : (Cond.instanceMethod ⟨"java/lang/StringBuilder", "toString", "()Ljava/lang/String;"⟩) ∈ lw_G := x_gw (inT_5 _ (List.mem_of_getElem? (i := 91) rfl)) rfl
theorem gw_1292 : (Cond.selects "java/lang/StringBuilder" ⟨"java/lang/StringBuilder", "toString", "()Ljava/lang/String;"⟩ ⟨"java/lang/StringBuilder", "toString", "()Ljava/lang/String;"⟩) ∈ lw_G := x_gw (inT_5 _ (List.mem_of_getElem? (i := 92) rfl)) rfl
theorem gw_1293 : (Cond.code ⟨"java/lang/StringBuilder", "toString", "()Ljava/lang/String;"⟩ prog_42_method_42_code 1 (some (.object "java/lang/String"))) ∈ lw_G := x_gw (inT_5 _ (List.mem_of_getElem? (i := 93) rfl)) rfl
theorem gw_1294 : (Cond.classLink "java/lang/StringBuilder" 18 "java/lang/String") ∈ lw_G := x_gw (inT_5 _ (List.mem_of_getElem? (i := 94) rfl)) rfl
theorem gw_1295 : (Cond.methodLink "java/lang/StringBuilder" 137 ⟨"java/lang/String", "<init>", "(Ljava/lang/StringBuilder;)V"⟩) ∈ lw_G := x_gw (inT_5 _ (List.mem_of_getElem? (i := 95) rfl)) rfl
theorem gw_1296 : (Cond.instanceMethod ⟨"java/lang/String", "<init>", "(Ljava/lang/StringBuilder;)V"⟩) ∈ lw_G := x_gw (inT_5 _ (List.mem_of_getElem? (i := 96) rfl)) rfl
theorem gw_1297 : (Cond.code ⟨"java/lang/String", "<init>", "(Ljava/lang/StringBuilder;)V"⟩ prog_41_method_53_code 2 none) ∈ lw_G := x_gw (inT_5 _ (List.mem_of_getElem? (i := 97) rfl)) rfl
theorem gw_1298 : (Cond.methodLink "java/lang/String" 489 ⟨"java/lang/String", "<init>", "(Ljava/lang/AbstractStringBuilder;Ljava/lang/Void;)V"⟩) ∈ lw_G := x_gw (inT_5 _ (List.mem_of_getElem? (i := 98) rfl)) rfl
theorem gw_1299 : (Cond.instanceMethod ⟨"java/lang/String", "<init>", "(Ljava/lang/AbstractStringBuilder;Ljava/lang/Void;)V"⟩) ∈ lw_G := x_gw (inT_5 _ (List.mem_of_getElem? (i := 99) rfl)) rfl
theorem gw_1300 : (Cond.code ⟨"java/lang/String", "<init>", "(Ljava/lang/AbstractStringBuilder;Ljava/lang/Void;)V"⟩ prog_41_method_150_code 5 none) ∈ lw_G := x_gw (inT_5 _ (List.mem_of_getElem? (i := 100) rfl)) rfl
theorem gw_1301 : (Cond.methodLink "java/lang/String" 552 ⟨"java/lang/AbstractStringBuilder", "getValue", "()[B"⟩) ∈ lw_G := x_gw (inT_5 _ (List.mem_of_getElem? (i := 101) rfl)) rfl
theorem gw_1302 : (Cond.instanceMethod ⟨"java/lang/AbstractStringBuilder", "getValue", "()[B"⟩) ∈ lw_G := x_gw (inT_5 _ (List.mem_of_getElem? (i := 102) rfl)) rfl
theorem gw_1304 : (Cond.selects "java/lang/StringBuilder" ⟨"java/lang/AbstractStringBuilder", "getValue", "()[B"⟩ ⟨"java/lang/AbstractStringBuilder", "getValue", "()[B"⟩) ∈ lw_G := x_gw (inT_5 _ (List.mem_of_getElem? (i := 104) rfl)) rfl
theorem gw_1305 : (Cond.code ⟨"java/lang/AbstractStringBuilder", "getValue", "()[B"⟩ prog_29_method_64_code 1 (some (.array .byte))) ∈ lw_G := x_gw (inT_5 _ (List.mem_of_getElem? (i := 105) rfl)) rfl
theorem gw_1306 : (Cond.methodLink "java/lang/String" 549 ⟨"java/lang/AbstractStringBuilder", "length", "()I"⟩) ∈ lw_G := x_gw (inT_5 _ (List.mem_of_getElem? (i := 106) rfl)) rfl
theorem gw_1307 : (Cond.instanceMethod ⟨"java/lang/AbstractStringBuilder", "length", "()I"⟩) ∈ lw_G := x_gw (inT_5 _ (List.mem_of_getElem? (i := 107) rfl)) rfl
theorem gw_1308 : (Cond.sameMethod "java/lang/AbstractStringBuilder" "java/lang/AbstractStringBuilder" "length" "()I") ∈ lw_G := x_gw (inT_5 _ (List.mem_of_getElem? (i := 108) rfl)) rfl
theorem gw_1309 : (Cond.selects "java/lang/StringBuilder" ⟨"java/lang/AbstractStringBuilder", "length", "()I"⟩ ⟨"java/lang/StringBuilder", "length", "()I"⟩) ∈ lw_G := x_gw (inT_5 _ (List.mem_of_getElem? (i := 109) rfl)) rfl
theorem gw_1310 : (Cond.instanceMethod ⟨"java/lang/StringBuilder", "length", "()I"⟩) ∈ lw_G := x_gw (inT_5 _ (List.mem_of_getElem? (i := 110) rfl)) rfl
theorem gw_1311 : (Cond.code ⟨"java/lang/StringBuilder", "length", "()I"⟩ prog_42_method_93_code 1 (some .int)) ∈ lw_G := x_gw (inT_5 _ (List.mem_of_getElem? (i := 111) rfl)) rfl
theorem gw_1313 : (Cond.code ⟨"java/lang/AbstractStringBuilder", "length", "()I"⟩ prog_29_method_6_code 1 (some .int)) ∈ lw_G := x_gw (inT_5 _ (List.mem_of_getElem? (i := 113) rfl)) rfl
theorem gw_1314 : (Cond.methodLink "java/lang/String" 1047 ⟨"java/lang/AbstractStringBuilder", "isLatin1", "()Z"⟩) ∈ lw_G := x_gw (inT_5 _ (List.mem_of_getElem? (i := 114) rfl)) rfl
theorem gw_1315 : (Cond.methodLink "java/lang/String" 54 ⟨"java/util/Arrays", "copyOfRange", "([BII)[B"⟩) ∈ lw_G := x_gw (inT_5 _ (List.mem_of_getElem? (i := 115) rfl)) rfl
theorem gw_1316 : (Cond.methodLink "java/lang/String" 1051 ⟨"java/lang/StringUTF16", "compress", "([BII)[B"⟩) ∈ lw_G := x_gw (inT_5 _ (List.mem_of_getElem? (i := 116) rfl)) rfl
theorem gw_1317 : (Cond.static ⟨"java/lang/StringUTF16", "compress", "([BII)[B"⟩) ∈ lw_G := x_gw (inT_5 _ (List.mem_of_getElem? (i := 117) rfl)) rfl
theorem gw_1318 : (Cond.code ⟨"java/lang/StringUTF16", "compress", "([BII)[B"⟩ prog_45_method_17_code 6 (some (.array .byte))) ∈ lw_G := x_gw (inT_5 _ (List.mem_of_getElem? (i := 118) rfl)) rfl
theorem gw_1319 : (Cond.methodLink "java/lang/StringUTF16" 126 ⟨"java/util/Arrays", "copyOfRange", "([BII)[B"⟩) ∈ lw_G := x_gw (inT_5 _ (List.mem_of_getElem? (i := 119) rfl)) rfl
theorem gw_1320 : (Cond.methodLink "java/util/Arrays" 65 ⟨"java/lang/IllegalArgumentException", "<init>", "(Ljava/lang/String;)V"⟩) ∈ lw_G := x_gw (inT_5 _ (List.mem_of_getElem? (i := 120) rfl)) rfl
theorem gw_1321 : (Cond.instanceMethod ⟨"java/lang/IllegalArgumentException", "<init>", "(Ljava/lang/String;)V"⟩) ∈ lw_G := x_gw (inT_5 _ (List.mem_of_getElem? (i := 121) rfl)) rfl
theorem gw_1322 : (Cond.code ⟨"java/lang/IllegalArgumentException", "<init>", "(Ljava/lang/String;)V"⟩ prog_33_method_2_code 2 none) ∈ lw_G := x_gw (inT_5 _ (List.mem_of_getElem? (i := 122) rfl)) rfl
theorem gw_1345 : (Cond.methodLink "java/lang/StringLatin1" 112 ⟨"java/lang/String", "<init>", "([BB)V"⟩) ∈ lw_G := x_gw (inT_5 _ (List.mem_of_getElem? (i := 145) rfl)) rfl
theorem gw_1346 : (Cond.instanceMethod ⟨"java/lang/String", "<init>", "([BB)V"⟩) ∈ lw_G := x_gw (inT_5 _ (List.mem_of_getElem? (i := 146) rfl)) rfl
theorem gw_1347 : (Cond.code ⟨"java/lang/String", "<init>", "([BB)V"⟩ prog_41_method_151_code 3 none) ∈ lw_G := x_gw (inT_5 _ (List.mem_of_getElem? (i := 147) rfl)) rfl
theorem gw_1348 : (Cond.methodLink "java/lang/String" 689 ⟨"java/lang/StringUTF16", "newString", "([BII)Ljava/lang/String;"⟩) ∈ lw_G := x_gw (inT_5 _ (List.mem_of_getElem? (i := 148) rfl)) rfl
theorem gw_1349 : (Cond.static ⟨"java/lang/StringUTF16", "newString", "([BII)Ljava/lang/String;"⟩) ∈ lw_G := x_gw (inT_5 _ (List.mem_of_getElem? (i := 149) rfl)) rfl
theorem gw_1350 : (Cond.code ⟨"java/lang/StringUTF16", "newString", "([BII)Ljava/lang/String;"⟩ prog_45_method_69_code 5 (some (.object "java/lang/String"))) ∈ lw_G := x_gw (inT_5 _ (List.mem_of_getElem? (i := 150) rfl)) rfl
theorem gw_1352 : (Cond.fieldLink "java/lang/StringUTF16" 251 "java/lang/String" "COMPACT_STRINGS" "Z") ∈ lw_G := x_gw (inT_5 _ (List.mem_of_getElem? (i := 152) rfl)) rfl
theorem gw_1353 : (Cond.methodLink "java/lang/StringUTF16" 257 ⟨"java/lang/StringUTF16", "compress", "([BII)[B"⟩) ∈ lw_G := x_gw (inT_5 _ (List.mem_of_getElem? (i := 153) rfl)) rfl
theorem gw_1354 : (Cond.methodLink "java/lang/StringUTF16" 259 ⟨"java/lang/StringUTF16", "coderFromArrayLen", "([BI)B"⟩) ∈ lw_G := x_gw (inT_5 _ (List.mem_of_getElem? (i := 154) rfl)) rfl
theorem gw_1355 : (Cond.classLink "java/lang/StringUTF16" 3 "java/lang/String") ∈ lw_G := x_gw (inT_5 _ (List.mem_of_getElem? (i := 155) rfl)) rfl
theorem gw_1356 : (Cond.methodLink "java/lang/StringUTF16" 263 ⟨"java/lang/String", "<init>", "([BB)V"⟩) ∈ lw_G := x_gw (inT_5 _ (List.mem_of_getElem? (i := 156) rfl)) rfl
theorem gw_1357 : (Cond.methodLink "RelayHall$Table" 44 ⟨"RelayHall$Table", "find", "(Ljava/lang/String;)I"⟩) ∈ lw_G := x_gw (inT_5 _ (List.mem_of_getElem? (i := 157) rfl)) rfl
theorem gw_1358 : (Cond.instanceMethod ⟨"RelayHall$Table", "find", "(Ljava/lang/String;)I"⟩) ∈ lw_G := x_gw (inT_5 _ (List.mem_of_getElem? (i := 158) rfl)) rfl
theorem gw_1359 : (Cond.selects "RelayHall$Table" ⟨"RelayHall$Table", "find", "(Ljava/lang/String;)I"⟩ ⟨"RelayHall$Table", "find", "(Ljava/lang/String;)I"⟩) ∈ lw_G := x_gw (inT_5 _ (List.mem_of_getElem? (i := 159) rfl)) rfl
theorem gw_1360 : (Cond.code ⟨"RelayHall$Table", "find", "(Ljava/lang/String;)I"⟩ prog_12_method_5_code 6 (some .int)) ∈ lw_G := x_gw (inT_5 _ (List.mem_of_getElem? (i := 160) rfl)) rfl
theorem gw_1361 : (Cond.methodLink "RelayHall" 581 ⟨"RelayHall", "findExchange", "(Ljava/lang/String;)LRelayHall$Exchange;"⟩) ∈ lw_G := x_gw (inT_5 _ (List.mem_of_getElem? (i := 161) rfl)) rfl
theorem gw_1363 : (Cond.instanceMethod ⟨"RelayHall", "findExchange", "(Ljava/lang/String;)LRelayHall$Exchange;"⟩) ∈ lw_G := x_gw (inT_5 _ (List.mem_of_getElem? (i := 163) rfl)) rfl
theorem gw_1364 : (Cond.code ⟨"RelayHall", "findExchange", "(Ljava/lang/String;)LRelayHall$Exchange;"⟩ prog_1_method_19_code 3 (some (.object "RelayHall$Exchange"))) ∈ lw_G := x_gw (inT_5 _ (List.mem_of_getElem? (i := 164) rfl)) rfl
theorem gw_1365 : (Cond.methodLink "RelayHall" 286 ⟨"java/lang/String", "isEmpty", "()Z"⟩) ∈ lw_G := x_gw (inT_5 _ (List.mem_of_getElem? (i := 165) rfl)) rfl
theorem gw_1366 : (Cond.instanceMethod ⟨"java/lang/String", "isEmpty", "()Z"⟩) ∈ lw_G := x_gw (inT_5 _ (List.mem_of_getElem? (i := 166) rfl)) rfl
theorem gw_1367 : (Cond.selects "java/lang/String" ⟨"java/lang/String", "isEmpty", "()Z"⟩ ⟨"java/lang/String", "isEmpty", "()Z"⟩) ∈ lw_G := x_gw (inT_5 _ (List.mem_of_getElem? (i := 167) rfl)) rfl
theorem gw_1368 : (Cond.code ⟨"java/lang/String", "isEmpty", "()Z"⟩ prog_41_method_55_code 1 (some .boolean)) ∈ lw_G := x_gw (inT_5 _ (List.mem_of_getElem? (i := 168) rfl)) rfl
theorem gw_1369 : (Cond.methodLink "RelayHall" 174 ⟨"java/util/ArrayList", "size", "()I"⟩) ∈ lw_G := x_gw (inT_5 _ (List.mem_of_getElem? (i := 169) rfl)) rfl
theorem gw_1370 : (Cond.instanceMethod ⟨"java/util/ArrayList", "size", "()I"⟩) ∈ lw_G := x_gw (inT_5 _ (List.mem_of_getElem? (i := 170) rfl)) rfl
theorem gw_1371 : (Cond.selects "java/util/ArrayList" ⟨"java/util/ArrayList", "size", "()I"⟩ ⟨"java/util/ArrayList", "size", "()I"⟩) ∈ lw_G := x_gw (inT_5 _ (List.mem_of_getElem? (i := 171) rfl)) rfl
theorem gw_1372 : (Cond.code ⟨"java/util/ArrayList", "size", "()I"⟩ prog_50_method_8_code 1 (some .int)) ∈ lw_G := x_gw (inT_5 _ (List.mem_of_getElem? (i := 172) rfl)) rfl
theorem gw_1373 : (Cond.methodLink "RelayHall" 227 ⟨"java/util/ArrayList", "get", "(I)Ljava/lang/Object;"⟩) ∈ lw_G := x_gw (inT_5 _ (List.mem_of_getElem? (i := 173) rfl)) rfl
theorem gw_1374 : (Cond.instanceMethod ⟨"java/util/ArrayList", "get", "(I)Ljava/lang/Object;"⟩) ∈ lw_G := x_gw (inT_5 _ (List.mem_of_getElem? (i := 174) rfl)) rfl
theorem gw_1375 : (Cond.selects "java/util/ArrayList" ⟨"java/util/ArrayList", "get", "(I)Ljava/lang/Object;"⟩ ⟨"java/util/ArrayList", "get", "(I)Ljava/lang/Object;"⟩) ∈ lw_G := x_gw (inT_5 _ (List.mem_of_getElem? (i := 175) rfl)) rfl
theorem gw_1376 : (Cond.code ⟨"java/util/ArrayList", "get", "(I)Ljava/lang/Object;"⟩ prog_50_method_20_code 2 (some (.object "java/lang/Object"))) ∈ lw_G := x_gw (inT_5 _ (List.mem_of_getElem? (i := 176) rfl)) rfl
theorem gw_1377 : (Cond.methodLink "java/util/ArrayList" 118 ⟨"java/util/Objects", "checkIndex", "(II)I"⟩) ∈ lw_G := x_gw (inT_5 _ (List.mem_of_getElem? (i := 177) rfl)) rfl
theorem gw_1378 : (Cond.static ⟨"java/util/Objects", "checkIndex", "(II)I"⟩) ∈ lw_G := x_gw (inT_5 _ (List.mem_of_getElem? (i := 178) rfl)) rfl
theorem gw_1379 : (Cond.code ⟨"java/util/Objects", "checkIndex", "(II)I"⟩ prog_55_method_17_code 2 (some .int)) ∈ lw_G := x_gw (inT_5 _ (List.mem_of_getElem? (i := 179) rfl)) rfl
theorem gw_1380 : (Cond.methodLink "java/util/Objects" 105 ⟨"jdk/internal/util/Preconditions", "checkIndex", "(IILjava/util/function/BiFunction;)I"⟩) ∈ lw_G := x_gw (inT_5 _ (List.mem_of_getElem? (i := 180) rfl)) rfl
theorem gw_1381 : (Cond.methodLink "java/util/ArrayList" 123 ⟨"java/util/ArrayList", "elementData", "(I)Ljava/lang/Object;"⟩) ∈ lw_G := x_gw (inT_5 _ (List.mem_of_getElem? (i := 181) rfl)) rfl
theorem gw_1382 : (Cond.instanceMethod ⟨"java/util/ArrayList", "elementData", "(I)Ljava/lang/Object;"⟩) ∈ lw_G := x_gw (inT_5 _ (List.mem_of_getElem? (i := 182) rfl)) rfl
theorem gw_1383 : (Cond.selects "java/util/ArrayList" ⟨"java/util/ArrayList", "elementData", "(I)Ljava/lang/Object;"⟩ ⟨"java/util/ArrayList", "elementData", "(I)Ljava/lang/Object;"⟩) ∈ lw_G := x_gw (inT_5 _ (List.mem_of_getElem? (i := 183) rfl)) rfl
theorem gw_1384 : (Cond.code ⟨"java/util/ArrayList", "elementData", "(I)Ljava/lang/Object;"⟩ prog_50_method_18_code 2 (some (.object "java/lang/Object"))) ∈ lw_G := x_gw (inT_5 _ (List.mem_of_getElem? (i := 184) rfl)) rfl
theorem gw_1385 : (Cond.methodLink "RelayHall" 274 ⟨"java/lang/String", "equals", "(Ljava/lang/Object;)Z"⟩) ∈ lw_G := x_gw (inT_5 _ (List.mem_of_getElem? (i := 185) rfl)) rfl
theorem gw_1386 : (Cond.instanceMethod ⟨"java/lang/String", "equals", "(Ljava/lang/Object;)Z"⟩) ∈ lw_G := x_gw (inT_5 _ (List.mem_of_getElem? (i := 186) rfl)) rfl
theorem gw_1387 : (Cond.selects "java/lang/String" ⟨"java/lang/String", "equals", "(Ljava/lang/Object;)Z"⟩ ⟨"java/lang/String", "equals", "(Ljava/lang/Object;)Z"⟩) ∈ lw_G := x_gw (inT_5 _ (List.mem_of_getElem? (i := 187) rfl)) rfl
theorem gw_1388 : (Cond.code ⟨"java/lang/String", "equals", "(Ljava/lang/Object;)Z"⟩ prog_41_method_66_code 3 (some .boolean)) ∈ lw_G := x_gw (inT_5 _ (List.mem_of_getElem? (i := 188) rfl)) rfl
theorem gw_1389 : (Cond.classLink "java/lang/String" 10 "java/lang/String") ∈ lw_G := x_gw (inT_5 _ (List.mem_of_getElem? (i := 189) rfl)) rfl
theorem gw_1390 : (Cond.methodLink "java/lang/String" 541 ⟨"java/lang/StringLatin1", "equals", "([B[B)Z"⟩) ∈ lw_G := x_gw (inT_5 _ (List.mem_of_getElem? (i := 190) rfl)) rfl
theorem gw_1391 : (Cond.static ⟨"java/lang/StringLatin1", "equals", "([B[B)Z"⟩) ∈ lw_G := x_gw (inT_5 _ (List.mem_of_getElem? (i := 191) rfl)) rfl
theorem gw_1392 : (Cond.code ⟨"java/lang/StringLatin1", "equals", "([B[B)Z"⟩ prog_44_method_13_code 3 (some .boolean)) ∈ lw_G := x_gw (inT_5 _ (List.mem_of_getElem? (i := 192) rfl)) rfl
theorem gw_1393 : (Cond.methodLink "RelayHall" 585 ⟨"RelayHall", "soft", "(LRelayHall$Channel;I)V"⟩) ∈ lw_G := x_gw (inT_5 _ (List.mem_of_getElem? (i := 193) rfl)) rfl
theorem gw_1395 : (Cond.instanceMethod ⟨"RelayHall", "soft", "(LRelayHall$Channel;I)V"⟩) ∈ lw_G := x_gw (inT_5 _ (List.mem_of_getElem? (i := 195) rfl)) rfl
theorem gw_1396 : (Cond.code ⟨"RelayHall", "soft", "(LRelayHall$Channel;I)V"⟩ prog_1_method_36_code 3 none) ∈ lw_G := x_gw (inT_5 _ (List.mem_of_getElem? (i := 196) rfl)) rfl
theorem gw_1397 : (Cond.methodLink "RelayHall" 588 ⟨"RelayHall", "kindOf", "(Ljava/lang/String;)I"⟩) ∈ lw_G := x_gw (inT_5 _ (List.mem_of_getElem? (i := 197) rfl)) rfl
theorem gw_1398 : (Cond.static ⟨"RelayHall", "kindOf", "(Ljava/lang/String;)I"⟩) ∈ lw_G := x_gw (inT_5 _ (List.mem_of_getElem? (i := 198) rfl)) rfl
theorem gw_1399 : (Cond.code ⟨"RelayHall", "kindOf", "(Ljava/lang/String;)I"⟩ prog_1_method_18_code 1 (some .int)) ∈ lw_G := x_gw (inT_5 _ (List.mem_of_getElem? (i := 199) rfl)) rfl
theorem gw_1404 : (Cond.methodLink "RelayHall" 592 ⟨"RelayHall$Table", "alternate", "()Ljava/lang/String;"⟩) ∈ lw_G := x_gw (inT_5 _ (List.mem_of_getElem? (i := 204) rfl)) rfl
theorem gw_1405 : (Cond.instanceMethod ⟨"RelayHall$Table", "alternate", "()Ljava/lang/String;"⟩) ∈ lw_G := x_gw (inT_5 _ (List.mem_of_getElem? (i := 205) rfl)) rfl
theorem gw_1406 : (Cond.selects "RelayHall$Table" ⟨"RelayHall$Table", "alternate", "()Ljava/lang/String;"⟩ ⟨"RelayHall$Table", "alternate", "()Ljava/lang/String;"⟩) ∈ lw_G := x_gw (inT_5 _ (List.mem_of_getElem? (i := 206) rfl)) rfl
theorem gw_1407 : (Cond.code ⟨"RelayHall$Table", "alternate", "()Ljava/lang/String;"⟩ prog_12_method_10_code 2 (some (.object "java/lang/String"))) ∈ lw_G := x_gw (inT_5 _ (List.mem_of_getElem? (i := 207) rfl)) rfl
theorem gw_1409 : (Cond.methodLink "RelayHall$Table" 56 ⟨"RelayHall$Table", "textOf", "(Ljava/lang/String;)Ljava/lang/String;"⟩) ∈ lw_G := x_gw (inT_5 _ (List.mem_of_getElem? (i := 209) rfl)) rfl
theorem gw_1410 : (Cond.instanceMethod ⟨"RelayHall$Table", "textOf", "(Ljava/lang/String;)Ljava/lang/String;"⟩) ∈ lw_G := x_gw (inT_5 _ (List.mem_of_getElem? (i := 210) rfl)) rfl
theorem gw_1411 : (Cond.selects "RelayHall$Table" ⟨"RelayHall$Table", "textOf", "(Ljava/lang/String;)Ljava/lang/String;"⟩ ⟨"RelayHall$Table", "textOf", "(Ljava/lang/String;)Ljava/lang/String;"⟩) ∈ lw_G := x_gw (inT_5 _ (List.mem_of_getElem? (i := 211) rfl)) rfl
theorem gw_1412 : (Cond.code ⟨"RelayHall$Table", "textOf", "(Ljava/lang/String;)Ljava/lang/String;"⟩ prog_12_method_9_code 3 (some (.object "java/lang/String"))) ∈ lw_G := x_gw (inT_5 _ (List.mem_of_getElem? (i := 212) rfl)) rfl
theorem gw_1413 : (Cond.methodLink "RelayHall$Table" 51 ⟨"RelayHall$Table", "kindAt", "(I)I"⟩) ∈ lw_G := x_gw (inT_5 _ (List.mem_of_getElem? (i := 213) rfl)) rfl
theorem gw_1415 : (Cond.instanceMethod ⟨"RelayHall$Table", "kindAt", "(I)I"⟩) ∈ lw_G := x_gw (inT_5 _ (List.mem_of_getElem? (i := 215) rfl)) rfl
theorem gw_1416 : (Cond.code ⟨"RelayHall$Table", "kindAt", "(I)I"⟩ prog_12_method_6_code 2 (some .int)) ∈ lw_G := x_gw (inT_5 _ (List.mem_of_getElem? (i := 216) rfl)) rfl
theorem gw_1417 : (Cond.methodLink "RelayHall$Table" 60 ⟨"java/lang/String", "isEmpty", "()Z"⟩) ∈ lw_G := x_gw (inT_5 _ (List.mem_of_getElem? (i := 217) rfl)) rfl
theorem gw_1418 : (Cond.methodLink "RelayHall" 597 ⟨"RelayHall", "makeExchange", "(LRelayHall$Channel;LRelayHall$Exchange;)Z"⟩) ∈ lw_G := x_gw (inT_5 _ (List.mem_of_getElem? (i := 218) rfl)) rfl
theorem gw_1420 : (Cond.instanceMethod ⟨"RelayHall", "makeExchange", "(LRelayHall$Channel;LRelayHall$Exchange;)Z"⟩) ∈ lw_G := x_gw (inT_5 _ (List.mem_of_getElem? (i := 220) rfl)) rfl
theorem gw_1421 : (Cond.code ⟨"RelayHall", "makeExchange", "(LRelayHall$Channel;LRelayHall$Exchange;)Z"⟩ prog_1_method_60_code 5 (some .boolean)) ∈ lw_G := x_gw (inT_5 _ (List.mem_of_getElem? (i := 221) rfl)) rfl
theorem gw_1422 : (Cond.methodLink "RelayHall" 604 ⟨"RelayHall", "sameText", "(Ljava/lang/String;Ljava/lang/String;)Z"⟩) ∈ lw_G := x_gw (inT_5 _ (List.mem_of_getElem? (i := 222) rfl)) rfl
theorem gw_1423 : (Cond.static ⟨"RelayHall", "sameText", "(Ljava/lang/String;Ljava/lang/String;)Z"⟩) ∈ lw_G := x_gw (inT_5 _ (List.mem_of_getElem? (i := 223) rfl)) rfl
theorem gw_1424 : (Cond.code ⟨"RelayHall", "sameText", "(Ljava/lang/String;Ljava/lang/String;)Z"⟩ prog_1_method_17_code 2 (some .boolean)) ∈ lw_G := x_gw (inT_5 _ (List.mem_of_getElem? (i := 224) rfl)) rfl
theorem gw_1425 : (Cond.constant "RelayHall" 601 (2621451)) ∈ lw_G := x_gw (inT_5 _ (List.mem_of_getElem? (i := 225) rfl)) rfl
theorem gw_1426 : (Cond.methodLink "RelayHall" 510 ⟨"RelayHall", "deleteExchange", "(LRelayHall$Channel;)V"⟩) ∈ lw_G := x_gw (inT_5 _ (List.mem_of_getElem? (i := 226) rfl)) rfl
theorem gw_1428 : (Cond.instanceMethod ⟨"RelayHall", "deleteExchange", "(LRelayHall$Channel;)V"⟩) ∈ lw_G := x_gw (inT_5 _ (List.mem_of_getElem? (i := 228) rfl)) rfl
theorem gw_1429 : (Cond.code ⟨"RelayHall", "deleteExchange", "(LRelayHall$Channel;)V"⟩ prog_1_method_61_code 5 none) ∈ lw_G := x_gw (inT_5 _ (List.mem_of_getElem? (i := 229) rfl)) rfl
theorem gw_1430 : (Cond.methodLink "RelayHall" 611 ⟨"RelayHall", "exchangeFor", "(LRelayHall$Channel;Ljava/lang/String;)LRelayHall$Exchange;"⟩) ∈ lw_G := x_gw (inT_5 _ (List.mem_of_getElem? (i := 230) rfl)) rfl
theorem gw_1432 : (Cond.instanceMethod ⟨"RelayHall", "exchangeFor", "(LRelayHall$Channel;Ljava/lang/String;)LRelayHall$Exchange;"⟩) ∈ lw_G := x_gw (inT_5 _ (List.mem_of_getElem? (i := 232) rfl)) rfl
theorem gw_1433 : (Cond.code ⟨"RelayHall", "exchangeFor", "(LRelayHall$Channel;Ljava/lang/String;)LRelayHall$Exchange;"⟩ prog_1_method_62_code 4 (some (.object "RelayHall$Exchange"))) ∈ lw_G := x_gw (inT_5 _ (List.mem_of_getElem? (i := 233) rfl)) rfl
theorem gw_1434 : (Cond.methodLink "RelayHall" 265 ⟨"RelayHall", "bindingsFrom", "(LRelayHall$Exchange;)I"⟩) ∈ lw_G := x_gw (inT_5 _ (List.mem_of_getElem? (i := 234) rfl)) rfl
theorem gw_1436 : (Cond.instanceMethod ⟨"RelayHall", "bindingsFrom", "(LRelayHall$Exchange;)I"⟩) ∈ lw_G := x_gw (inT_5 _ (List.mem_of_getElem? (i := 236) rfl)) rfl
theorem gw_1437 : (Cond.code ⟨"RelayHall", "bindingsFrom", "(LRelayHall$Exchange;)I"⟩ prog_1_method_27_code 4 (some .int)) ∈ lw_G := x_gw (inT_5 _ (List.mem_of_getElem? (i := 237) rfl)) rfl
theorem gw_1438 : (Cond.classLink "RelayHall" 299 "RelayHall$Binding") ∈ lw_G := x_gw (inT_5 _ (List.mem_of_getElem? (i := 238) rfl)) rfl
theorem gw_1439 : (Cond.methodLink "RelayHall" 615 ⟨"RelayHall", "removeExchange", "(LRelayHall$Exchange;)V"⟩) ∈ lw_G := x_gw (inT_5 _ (List.mem_of_getElem? (i := 239) rfl)) rfl
theorem gw_1441 : (Cond.instanceMethod ⟨"RelayHall", "removeExchange", "(LRelayHall$Exchange;)V"⟩) ∈ lw_G := x_gw (inT_6 _ (List.mem_of_getElem? (i := 1) rfl)) rfl
theorem gw_1442 : (Cond.code ⟨"RelayHall", "removeExchange", "(LRelayHall$Exchange;)V"⟩ prog_1_method_63_code 4 none) ∈ lw_G := x_gw (inT_6 _ (List.mem_of_getElem? (i := 2) rfl)) rfl
theorem gw_1443 : (Cond.methodLink "RelayHall" 620 ⟨"java/util/ArrayList", "remove", "(I)Ljava/lang/Object;"⟩) ∈ lw_G := x_gw (inT_6 _ (List.mem_of_getElem? (i := 3) rfl)) rfl
theorem gw_1444 : (Cond.instanceMethod ⟨"java/util/ArrayList", "remove", "(I)Ljava/lang/Object;"⟩) ∈ lw_G := x_gw (inT_6 _ (List.mem_of_getElem? (i := 4) rfl)) rfl
theorem gw_1445 : (Cond.selects "java/util/ArrayList" ⟨"java/util/ArrayList", "remove", "(I)Ljava/lang/Object;"⟩ ⟨"java/util/ArrayList", "remove", "(I)Ljava/lang/Object;"⟩) ∈ lw_G := x_gw (inT_6 _ (List.mem_of_getElem? (i := 5) rfl)) rfl
theorem gw_1446 : (Cond.code ⟨"java/util/ArrayList", "remove", "(I)Ljava/lang/Object;"⟩ prog_50_method_29_code 4 (some (.object "java/lang/Object"))) ∈ lw_G := x_gw (inT_6 _ (List.mem_of_getElem? (i := 6) rfl)) rfl
theorem gw_1447 : (Cond.methodLink "java/util/ArrayList" 144 ⟨"java/util/ArrayList", "fastRemove", "([Ljava/lang/Object;I)V"⟩) ∈ lw_G := x_gw (inT_6 _ (List.mem_of_getElem? (i := 7) rfl)) rfl
theorem gw_1449 : (Cond.instanceMethod ⟨"java/util/ArrayList", "fastRemove", "([Ljava/lang/Object;I)V"⟩) ∈ lw_G := x_gw (inT_6 _ (List.mem_of_getElem? (i := 9) rfl)) rfl
theorem gw_1450 : (Cond.code ⟨"java/util/ArrayList", "fastRemove", "([Ljava/lang/Object;I)V"⟩ prog_50_method_39_code 4 none) ∈ lw_G := x_gw (inT_6 _ (List.mem_of_getElem? (i := 10) rfl)) rfl
theorem gw_1452 : (Cond.constant "RelayHall" 619 (2621461)) ∈ lw_G := x_gw (inT_6 _ (List.mem_of_getElem? (i := 12) rfl)) rfl
theorem gw_1453 : (Cond.methodLink "RelayHall" 513 ⟨"RelayHall", "declareQueue", "(LRelayHall$Channel;)V"⟩) ∈ lw_G := x_gw (inT_6 _ (List.mem_of_getElem? (i := 13) rfl)) rfl
theorem gw_1455 : (Cond.instanceMethod ⟨"RelayHall", "declareQueue", "(LRelayHall$Channel;)V"⟩) ∈ lw_G := x_gw (inT_6 _ (List.mem_of_getElem? (i := 15) rfl)) rfl
theorem gw_1456 : (Cond.code ⟨"RelayHall", "declareQueue", "(LRelayHall$Channel;)V"⟩ prog_1_method_64_code 7 none) ∈ lw_G := x_gw (inT_6 _ (List.mem_of_getElem? (i := 16) rfl)) rfl
theorem gw_1457 : (Cond.methodLink "RelayHall" 623 ⟨"RelayHall", "lookedFor", "(LRelayHall$Channel;Ljava/lang/String;)LRelayHall$Queue;"⟩) ∈ lw_G := x_gw (inT_6 _ (List.mem_of_getElem? (i := 17) rfl)) rfl
theorem gw_1459 : (Cond.instanceMethod ⟨"RelayHall", "lookedFor", "(LRelayHall$Channel;Ljava/lang/String;)LRelayHall$Queue;"⟩) ∈ lw_G := x_gw (inT_6 _ (List.mem_of_getElem? (i := 19) rfl)) rfl
theorem gw_1460 : (Cond.code ⟨"RelayHall", "lookedFor", "(LRelayHall$Channel;Ljava/lang/String;)LRelayHall$Queue;"⟩ prog_1_method_65_code 4 (some (.object "RelayHall$Queue"))) ∈ lw_G := x_gw (inT_6 _ (List.mem_of_getElem? (i := 20) rfl)) rfl
theorem gw_1461 : (Cond.methodLink "RelayHall" 635 ⟨"RelayHall", "findQueue", "(Ljava/lang/String;)LRelayHall$Queue;"⟩) ∈ lw_G := x_gw (inT_6 _ (List.mem_of_getElem? (i := 21) rfl)) rfl
theorem gw_1463 : (Cond.instanceMethod ⟨"RelayHall", "findQueue", "(Ljava/lang/String;)LRelayHall$Queue;"⟩) ∈ lw_G := x_gw (inT_6 _ (List.mem_of_getElem? (i := 23) rfl)) rfl
theorem gw_1464 : (Cond.code ⟨"RelayHall", "findQueue", "(Ljava/lang/String;)LRelayHall$Queue;"⟩ prog_1_method_20_code 3 (some (.object "RelayHall$Queue"))) ∈ lw_G := x_gw (inT_6 _ (List.mem_of_getElem? (i := 24) rfl)) rfl
theorem gw_1465 : (Cond.classLink "RelayHall" 231 "RelayHall$Queue") ∈ lw_G := x_gw (inT_6 _ (List.mem_of_getElem? (i := 25) rfl)) rfl
theorem gw_1466 : (Cond.methodLink "RelayHall" 639 ⟨"RelayHall$Queue", "isOpenTo", "(LRelayHall$Connection;)Z"⟩) ∈ lw_G := x_gw (inT_6 _ (List.mem_of_getElem? (i := 26) rfl)) rfl
theorem gw_1467 : (Cond.instanceMethod ⟨"RelayHall$Queue", "isOpenTo", "(LRelayHall$Connection;)Z"⟩) ∈ lw_G := x_gw (inT_6 _ (List.mem_of_getElem? (i := 27) rfl)) rfl
theorem gw_1468 : (Cond.selects "RelayHall$Queue" ⟨"RelayHall$Queue", "isOpenTo", "(LRelayHall$Connection;)Z"⟩ ⟨"RelayHall$Queue", "isOpenTo", "(LRelayHall$Connection;)Z"⟩) ∈ lw_G := x_gw (inT_6 _ (List.mem_of_getElem? (i := 28) rfl)) rfl
theorem gw_1469 : (Cond.code ⟨"RelayHall$Queue", "isOpenTo", "(LRelayHall$Connection;)Z"⟩ prog_10_method_2_code 2 (some .boolean)) ∈ lw_G := x_gw (inT_6 _ (List.mem_of_getElem? (i := 29) rfl)) rfl
theorem gw_1470 : (Cond.methodLink "RelayHall" 627 ⟨"RelayHall", "makeQueue", "(LRelayHall$Channel;Ljava/lang/String;ILRelayHall$Table;)LRelayHall$Queue;"⟩) ∈ lw_G := x_gw (inT_6 _ (List.mem_of_getElem? (i := 30) rfl)) rfl
theorem gw_1472 : (Cond.instanceMethod ⟨"RelayHall", "makeQueue", "(LRelayHall$Channel;Ljava/lang/String;ILRelayHall$Table;)LRelayHall$Queue;"⟩) ∈ lw_G := x_gw (inT_6 _ (List.mem_of_getElem? (i := 32) rfl)) rfl
theorem gw_1473 : (Cond.code ⟨"RelayHall", "makeQueue", "(LRelayHall$Channel;Ljava/lang/String;ILRelayHall$Table;)LRelayHall$Queue;"⟩ prog_1_method_67_code 9 (some (.object "RelayHall$Queue"))) ∈ lw_G := x_gw (inT_6 _ (List.mem_of_getElem? (i := 33) rfl)) rfl
theorem gw_1474 : (Cond.methodLink "RelayHall" 643 ⟨"RelayHall", "freeNumber", "()I"⟩) ∈ lw_G := x_gw (inT_6 _ (List.mem_of_getElem? (i := 34) rfl)) rfl
theorem gw_1476 : (Cond.instanceMethod ⟨"RelayHall", "freeNumber", "()I"⟩) ∈ lw_G := x_gw (inT_6 _ (List.mem_of_getElem? (i := 36) rfl)) rfl
theorem gw_1477 : (Cond.code ⟨"RelayHall", "freeNumber", "()I"⟩ prog_1_method_69_code 3 (some .int)) ∈ lw_G := x_gw (inT_6 _ (List.mem_of_getElem? (i := 37) rfl)) rfl
theorem gw_1479 : (Cond.methodLink "RelayHall" 648 ⟨"RelayHall", "numbered", "(Ljava/lang/String;I)Ljava/lang/String;"⟩) ∈ lw_G := x_gw (inT_6 _ (List.mem_of_getElem? (i := 39) rfl)) rfl
theorem gw_1481 : (Cond.instanceMethod ⟨"RelayHall", "numbered", "(Ljava/lang/String;I)Ljava/lang/String;"⟩) ∈ lw_G := x_gw (inT_6 _ (List.mem_of_getElem? (i := 41) rfl)) rfl
theorem gw_1482 : (Cond.code ⟨"RelayHall", "numbered", "(Ljava/lang/String;I)Ljava/lang/String;"⟩ prog_1_method_68_code 3 (some (.object "java/lang/String"))) ∈ lw_G := x_gw (inT_6 _ (List.mem_of_getElem? (i := 42) rfl)) rfl
theorem gw_1483 : (Cond.methodLink "RelayHall" 664 ⟨"java/lang/StringBuilder", "setLength", "(I)V"⟩) ∈ lw_G := x_gw (inT_6 _ (List.mem_of_getElem? (i := 43) rfl)) rfl
theorem gw_1484 : (Cond.instanceMethod ⟨"java/lang/StringBuilder", "setLength", "(I)V"⟩) ∈ lw_G := x_gw (inT_6 _ (List.mem_of_getElem? (i := 44) rfl)) rfl
theorem gw_1485 : (Cond.selects "java/lang/StringBuilder" ⟨"java/lang/StringBuilder", "setLength", "(I)V"⟩ ⟨"java/lang/StringBuilder", "setLength", "(I)V"⟩) ∈ lw_G := x_gw (inT_6 _ (List.mem_of_getElem? (i := 45) rfl)) rfl
theorem gw_1486 : (Cond.code ⟨"java/lang/StringBuilder", "setLength", "(I)V"⟩ prog_42_method_89_code 2 none) ∈ lw_G := x_gw (inT_6 _ (List.mem_of_getElem? (i := 46) rfl)) rfl
theorem gw_1489 : (Cond.code ⟨"java/lang/AbstractStringBuilder", "setLength", "(I)V"⟩ prog_29_method_13_code 2 none) ∈ lw_G := x_gw (inT_6 _ (List.mem_of_getElem? (i := 49) rfl)) rfl
theorem gw_1490 : (Cond.classLink "java/lang/AbstractStringBuilder" 129 "java/lang/StringIndexOutOfBoundsException") ∈ lw_G := x_gw (inT_6 _ (List.mem_of_getElem? (i := 50) rfl)) rfl
theorem gw_1491 : (Cond.instantiable "java/lang/StringIndexOutOfBoundsException" 6) ∈ lw_G := x_gw (inT_6 _ (List.mem_of_getElem? (i := 51) rfl)) rfl
theorem gw_1492 : (Cond.methodLink "java/lang/AbstractStringBuilder" 131 ⟨"java/lang/StringIndexOutOfBoundsException", "<init>", "(I)V"⟩) ∈ lw_G := x_gw (inT_6 _ (List.mem_of_getElem? (i := 52) rfl)) rfl
theorem gw_1493 : (Cond.instanceMethod ⟨"java/lang/StringIndexOutOfBoundsException", "<init>", "(I)V"⟩) ∈ lw_G := x_gw (inT_6 _ (List.mem_of_getElem? (i := 53) rfl)) rfl
theorem gw_1494 : (Cond.code ⟨"java/lang/StringIndexOutOfBoundsException", "<init>", "(I)V"⟩ prog_43_method_3_code 2 none) ∈ lw_G := x_gw (inT_6 _ (List.mem_of_getElem? (i := 54) rfl)) rfl
theorem gw_1495 : (Cond.classLink "java/lang/StringIndexOutOfBoundsException" 10 "java/lang/StringBuilder") ∈ lw_G := x_gw (inT_6 _ (List.mem_of_getElem? (i := 55) rfl)) rfl
theorem gw_1496 : (Cond.methodLink "java/lang/StringIndexOutOfBoundsException" 12 ⟨"java/lang/StringBuilder", "<init>", "()V"⟩) ∈ lw_G := x_gw (inT_6 _ (List.mem_of_getElem? (i := 56) rfl)) rfl
theorem gw_1498 : (Cond.methodLink "java/lang/StringIndexOutOfBoundsException" 15 ⟨"java/lang/StringBuilder", "append", "(Ljava/lang/String;)Ljava/lang/StringBuilder;"⟩) ∈ lw_G := x_gw (inT_6 _ (List.mem_of_getElem? (i := 58) rfl)) rfl
theorem gw_1499 : (Cond.methodLink "java/lang/StringIndexOutOfBoundsException" 19 ⟨"java/lang/StringBuilder", "append", "(I)Ljava/lang/StringBuilder;"⟩) ∈ lw_G := x_gw (inT_6 _ (List.mem_of_getElem? (i := 59) rfl)) rfl
theorem gw_1500 : (Cond.methodLink "java/lang/StringIndexOutOfBoundsException" 22 ⟨"java/lang/StringBuilder", "toString", "()Ljava/lang/String;"⟩) ∈ lw_G := x_gw (inT_6 _ (List.mem_of_getElem? (i := 60) rfl)) rfl
theorem gw_1501 : (Cond.methodLink "java/lang/StringIndexOutOfBoundsException" 7 ⟨"java/lang/IndexOutOfBoundsException", "<init>", "(Ljava/lang/String;)V"⟩) ∈ lw_G := x_gw (inT_6 _ (List.mem_of_getElem? (i := 61) rfl)) rfl
theorem gw_1502 : (Cond.instanceMethod ⟨"java/lang/IndexOutOfBoundsException", "<init>", "(Ljava/lang/String;)V"⟩) ∈ lw_G := x_gw (inT_6 _ (List.mem_of_getElem? (i := 62) rfl)) rfl
theorem gw_1503 : (Cond.code ⟨"java/lang/IndexOutOfBoundsException", "<init>", "(Ljava/lang/String;)V"⟩ prog_34_method_2_code 2 none) ∈ lw_G := x_gw (inT_6 _ (List.mem_of_getElem? (i := 63) rfl)) rfl
theorem gw_1512 : (Cond.methodLink "java/lang/AbstractStringBuilder" 133 ⟨"java/lang/StringLatin1", "fillNull", "([BII)V"⟩) ∈ lw_G := x_gw (inT_6 _ (List.mem_of_getElem? (i := 72) rfl)) rfl
theorem gw_1513 : (Cond.static ⟨"java/lang/StringLatin1", "fillNull", "([BII)V"⟩) ∈ lw_G := x_gw (inT_6 _ (List.mem_of_getElem? (i := 73) rfl)) rfl
theorem gw_1514 : (Cond.code ⟨"java/lang/StringLatin1", "fillNull", "([BII)V"⟩ prog_44_method_48_code 3 none) ∈ lw_G := x_gw (inT_6 _ (List.mem_of_getElem? (i := 74) rfl)) rfl
theorem gw_1515 : (Cond.methodLink "java/lang/StringLatin1" 236 ⟨"java/util/Arrays", "fill", "([BIIB)V"⟩) ∈ lw_G := x_gw (inT_6 _ (List.mem_of_getElem? (i := 75) rfl)) rfl
theorem gw_1516 : (Cond.static ⟨"java/util/Arrays", "fill", "([BIIB)V"⟩) ∈ lw_G := x_gw (inT_6 _ (List.mem_of_getElem? (i := 76) rfl)) rfl
theorem gw_1517 : (Cond.code ⟨"java/util/Arrays", "fill", "([BIIB)V"⟩ prog_51_method_110_code 5 none) ∈ lw_G := x_gw (inT_6 _ (List.mem_of_getElem? (i := 77) rfl)) rfl
theorem gw_1518 : (Cond.methodLink "java/util/Arrays" 13 ⟨"java/util/Arrays", "rangeCheck", "(III)V"⟩) ∈ lw_G := x_gw (inT_6 _ (List.mem_of_getElem? (i := 78) rfl)) rfl
theorem gw_1519 : (Cond.static ⟨"java/util/Arrays", "rangeCheck", "(III)V"⟩) ∈ lw_G := x_gw (inT_6 _ (List.mem_of_getElem? (i := 79) rfl)) rfl
theorem gw_1520 : (Cond.code ⟨"java/util/Arrays", "rangeCheck", "(III)V"⟩ prog_51_method_30_code 3 none) ∈ lw_G := x_gw (inT_6 _ (List.mem_of_getElem? (i := 80) rfl)) rfl
theorem gw_1524 : (Cond.classLink "java/util/Arrays" 68 "java/lang/ArrayIndexOutOfBoundsException") ∈ lw_G := x_gw (inT_6 _ (List.mem_of_getElem? (i := 84) rfl)) rfl
theorem gw_1525 : (Cond.instantiable "java/lang/ArrayIndexOutOfBoundsException" 6) ∈ lw_G := x_gw (inT_6 _ (List.mem_of_getElem? (i := 85) rfl)) rfl
theorem gw_1526 : (Cond.methodLink "java/util/Arrays" 70 ⟨"java/lang/ArrayIndexOutOfBoundsException", "<init>", "(I)V"⟩) ∈ lw_G := x_gw (inT_6 _ (List.mem_of_getElem? (i := 86) rfl)) rfl
theorem gw_1527 : (Cond.instanceMethod ⟨"java/lang/ArrayIndexOutOfBoundsException", "<init>", "(I)V"⟩) ∈ lw_G := x_gw (inT_6 _ (List.mem_of_getElem? (i := 87) rfl)) rfl
theorem gw_1528 : (Cond.code ⟨"java/lang/ArrayIndexOutOfBoundsException", "<init>", "(I)V"⟩ prog_30_method_3_code 2 none) ∈ lw_G := x_gw (inT_6 _ (List.mem_of_getElem? (i := 88) rfl)) rfl
theorem gw_1529 : (Cond.classLink "java/lang/ArrayIndexOutOfBoundsException" 10 "java/lang/StringBuilder") ∈ lw_G := x_gw (inT_6 _ (List.mem_of_getElem? (i := 89) rfl)) rfl
theorem gw_1530 : (Cond.methodLink "java/lang/ArrayIndexOutOfBoundsException" 12 ⟨"java/lang/StringBuilder", "<init>", "()V"⟩) ∈ lw_G := x_gw (inT_6 _ (List.mem_of_getElem? (i := 90) rfl)) rfl
theorem gw_1532 : (Cond.methodLink "java/lang/ArrayIndexOutOfBoundsException" 15 ⟨"java/lang/StringBuilder", "append", "(Ljava/lang/String;)Ljava/lang/StringBuilder;"⟩) ∈ lw_G := x_gw (inT_6 _ (List.mem_of_getElem? (i := 92) rfl)) rfl
theorem gw_1533 : (Cond.methodLink "java/lang/ArrayIndexOutOfBoundsException" 19 ⟨"java/lang/StringBuilder", "append", "(I)Ljava/lang/StringBuilder;"⟩) ∈ lw_G := x_gw (inT_6 _ (List.mem_of_getElem? (i := 93) rfl)) rfl
theorem gw_1534 : (Cond.methodLink "java/lang/ArrayIndexOutOfBoundsException" 22 ⟨"java/lang/StringBuilder", "toString", "()Ljava/lang/String;"⟩) ∈ lw_G := x_gw (inT_6 _ (List.mem_of_getElem? (i := 94) rfl)) rfl
theorem gw_1535 : (Cond.methodLink "java/lang/ArrayIndexOutOfBoundsException" 7 ⟨"java/lang/IndexOutOfBoundsException", "<init>", "(Ljava/lang/String;)V"⟩) ∈ lw_G := x_gw (inT_6 _ (List.mem_of_getElem? (i := 95) rfl)) rfl
theorem gw_1543 : (Cond.methodLink "java/lang/AbstractStringBuilder" 137 ⟨"java/lang/StringUTF16", "fillNull", "([BII)V"⟩) ∈ lw_G := x_gw (inT_6 _ (List.mem_of_getElem? (i := 103) rfl)) rfl
theorem gw_1544 : (Cond.static ⟨"java/lang/StringUTF16", "fillNull", "([BII)V"⟩) ∈ lw_G := x_gw (inT_6 _ (List.mem_of_getElem? (i := 104) rfl)) rfl
theorem gw_1545 : (Cond.code ⟨"java/lang/StringUTF16", "fillNull", "([BII)V"⟩ prog_45_method_70_code 3 none) ∈ lw_G := x_gw (inT_6 _ (List.mem_of_getElem? (i := 105) rfl)) rfl
theorem gw_1546 : (Cond.methodLink "java/lang/StringUTF16" 380 ⟨"java/util/Arrays", "fill", "([BIIB)V"⟩) ∈ lw_G := x_gw (inT_6 _ (List.mem_of_getElem? (i := 106) rfl)) rfl
theorem gw_1547 : (Cond.methodLink "RelayHall" 667 ⟨"java/lang/StringBuilder", "append", "(Ljava/lang/String;)Ljava/lang/StringBuilder;"⟩) ∈ lw_G := x_gw (inT_6 _ (List.mem_of_getElem? (i := 107) rfl)) rfl
theorem gw_1548 : (Cond.methodLink "RelayHall" 671 ⟨"java/lang/StringBuilder", "append", "(I)Ljava/lang/StringBuilder;"⟩) ∈ lw_G := x_gw (inT_6 _ (List.mem_of_getElem? (i := 108) rfl)) rfl
theorem gw_1549 : (Cond.methodLink "RelayHall" 674 ⟨"java/lang/StringBuilder", "toString", "()Ljava/lang/String;"⟩) ∈ lw_G := x_gw (inT_6 _ (List.mem_of_getElem? (i := 109) rfl)) rfl
theorem gw_1550 : (Cond.instantiable "RelayHall$Queue" 15) ∈ lw_G := x_gw (inT_6 _ (List.mem_of_getElem? (i := 110) rfl)) rfl
theorem gw_1551 : (Cond.methodLink "RelayHall" 652 ⟨"RelayHall$Queue", "<init>", "(Ljava/lang/String;ILRelayHall$Connection;)V"⟩) ∈ lw_G := x_gw (inT_6 _ (List.mem_of_getElem? (i := 111) rfl)) rfl
theorem gw_1552 : (Cond.instanceMethod ⟨"RelayHall$Queue", "<init>", "(Ljava/lang/String;ILRelayHall$Connection;)V"⟩) ∈ lw_G := x_gw (inT_6 _ (List.mem_of_getElem? (i := 112) rfl)) rfl
theorem gw_1553 : (Cond.code ⟨"RelayHall$Queue", "<init>", "(Ljava/lang/String;ILRelayHall$Connection;)V"⟩ prog_10_method_1_code 4 none) ∈ lw_G := x_gw (inT_6 _ (List.mem_of_getElem? (i := 113) rfl)) rfl
theorem gw_1555 : (Cond.classLink "RelayHall$Queue" 28 "java/util/ArrayList") ∈ lw_G := x_gw (inT_6 _ (List.mem_of_getElem? (i := 115) rfl)) rfl
theorem gw_1556 : (Cond.methodLink "RelayHall$Queue" 30 ⟨"java/util/ArrayList", "<init>", "()V"⟩) ∈ lw_G := x_gw (inT_6 _ (List.mem_of_getElem? (i := 116) rfl)) rfl
theorem gw_1557 : (Cond.fieldLink "RelayHall$Queue" 46 "RelayHall$Queue" "name" "Ljava/lang/String;") ∈ lw_G := x_gw (inT_6 _ (List.mem_of_getElem? (i := 117) rfl)) rfl
theorem gw_1558 : (Cond.fieldLink "RelayHall" 245 "RelayHall$Queue" "name" "Ljava/lang/String;") ∈ lw_G := x_gw (inT_6 _ (List.mem_of_getElem? (i := 118) rfl)) rfl
theorem gw_1559 : (Cond.fieldLink "RelayHall$Queue" 49 "RelayHall$Queue" "bits" "I") ∈ lw_G := x_gw (inT_6 _ (List.mem_of_getElem? (i := 119) rfl)) rfl
theorem gw_1560 : (Cond.fieldLink "RelayHall" 242 "RelayHall$Queue" "bits" "I") ∈ lw_G := x_gw (inT_6 _ (List.mem_of_getElem? (i := 120) rfl)) rfl
theorem gw_1561 : (Cond.fieldLink "RelayHall$Queue" 52 "RelayHall$Queue" "owner" "LRelayHall$Connection;") ∈ lw_G := x_gw (inT_6 _ (List.mem_of_getElem? (i := 121) rfl)) rfl
theorem gw_1562 : (Cond.fieldLink "RelayHall" 378 "RelayHall$Queue" "owner" "LRelayHall$Connection;") ∈ lw_G := x_gw (inT_6 _ (List.mem_of_getElem? (i := 122) rfl)) rfl
theorem gw_1563 : (Cond.fieldLink "RelayHall$Queue" 56 "RelayHall$Queue" "kept" "Z") ∈ lw_G := x_gw (inT_6 _ (List.mem_of_getElem? (i := 123) rfl)) rfl
theorem gw_1564 : (Cond.fieldLink "RelayHall$Binding" 57 "RelayHall$Queue" "kept" "Z") ∈ lw_G := x_gw (inT_6 _ (List.mem_of_getElem? (i := 124) rfl)) rfl
theorem gw_1565 : (Cond.fieldLink "RelayHall$Message" 78 "RelayHall$Queue" "kept" "Z") ∈ lw_G := x_gw (inT_6 _ (List.mem_of_getElem? (i := 125) rfl)) rfl
theorem gw_1566 : (Cond.fieldLink "RelayHall" 662 "RelayHall$Queue" "kept" "Z") ∈ lw_G := x_gw (inT_6 _ (List.mem_of_getElem? (i := 126) rfl)) rfl
theorem gw_1567 : (Cond.fieldLink "RelayHall$Queue" 59 "RelayHall$Queue" "autoDelete" "Z") ∈ lw_G := x_gw (inT_6 _ (List.mem_of_getElem? (i := 127) rfl)) rfl
theorem gw_1568 : (Cond.fieldLink "RelayHall" 891 "RelayHall$Queue" "autoDelete" "Z") ∈ lw_G := x_gw (inT_6 _ (List.mem_of_getElem? (i := 128) rfl)) rfl
theorem gw_1569 : (Cond.fieldLink "RelayHall$Queue" 9 "RelayHall$Queue" "max" "I") ∈ lw_G := x_gw (inT_6 _ (List.mem_of_getElem? (i := 129) rfl)) rfl
theorem gw_1570 : (Cond.fieldLink "RelayHall" 850 "RelayHall$Queue" "max" "I") ∈ lw_G := x_gw (inT_6 _ (List.mem_of_getElem? (i := 130) rfl)) rfl
theorem gw_1571 : (Cond.fieldLink "RelayHall$Queue" 15 "RelayHall$Queue" "ttl" "I") ∈ lw_G := x_gw (inT_6 _ (List.mem_of_getElem? (i := 131) rfl)) rfl
theorem gw_1572 : (Cond.fieldLink "RelayHall$Message" 98 "RelayHall$Queue" "ttl" "I") ∈ lw_G := x_gw (inT_6 _ (List.mem_of_getElem? (i := 132) rfl)) rfl
theorem gw_1573 : (Cond.fieldLink "RelayHall$Queue" 18 "RelayHall$Queue" "pri" "I") ∈ lw_G := x_gw (inT_6 _ (List.mem_of_getElem? (i := 133) rfl)) rfl
theorem gw_1574 : (Cond.fieldLink "RelayHall$Message" 83 "RelayHall$Queue" "pri" "I") ∈ lw_G := x_gw (inT_6 _ (List.mem_of_getElem? (i := 134) rfl)) rfl
theorem gw_1575 : (Cond.fieldLink "RelayHall$Queue" 21 "RelayHall$Queue" "dlx" "Ljava/lang/String;") ∈ lw_G := x_gw (inT_6 _ (List.mem_of_getElem? (i := 135) rfl)) rfl
theorem gw_1576 : (Cond.fieldLink "RelayHall$Message" 92 "RelayHall$Queue" "dlx" "Ljava/lang/String;") ∈ lw_G := x_gw (inT_6 _ (List.mem_of_getElem? (i := 136) rfl)) rfl
theorem gw_1577 : (Cond.fieldLink "RelayHall" 854 "RelayHall$Queue" "dlx" "Ljava/lang/String;") ∈ lw_G := x_gw (inT_6 _ (List.mem_of_getElem? (i := 137) rfl)) rfl
theorem gw_1578 : (Cond.fieldLink "RelayHall$Queue" 25 "RelayHall$Queue" "dlk" "Ljava/lang/String;") ∈ lw_G := x_gw (inT_6 _ (List.mem_of_getElem? (i := 138) rfl)) rfl
theorem gw_1579 : (Cond.fieldLink "RelayHall$Message" 95 "RelayHall$Queue" "dlk" "Ljava/lang/String;") ∈ lw_G := x_gw (inT_6 _ (List.mem_of_getElem? (i := 139) rfl)) rfl
theorem gw_1580 : (Cond.fieldLink "RelayHall$Queue" 31 "RelayHall$Queue" "ready" "Ljava/util/ArrayList;") ∈ lw_G := x_gw (inT_6 _ (List.mem_of_getElem? (i := 140) rfl)) rfl
theorem gw_1581 : (Cond.fieldLink "RelayHall" 233 "RelayHall$Queue" "ready" "Ljava/util/ArrayList;") ∈ lw_G := x_gw (inT_6 _ (List.mem_of_getElem? (i := 141) rfl)) rfl
theorem gw_1582 : (Cond.fieldLink "RelayHall$Queue" 35 "RelayHall$Queue" "unacked" "I") ∈ lw_G := x_gw (inT_6 _ (List.mem_of_getElem? (i := 142) rfl)) rfl
theorem gw_1583 : (Cond.fieldLink "RelayHall" 236 "RelayHall$Queue" "unacked" "I") ∈ lw_G := x_gw (inT_6 _ (List.mem_of_getElem? (i := 143) rfl)) rfl
theorem gw_1584 : (Cond.fieldLink "RelayHall$Queue" 38 "RelayHall$Queue" "lastServed" "LRelayHall$Consumer;") ∈ lw_G := x_gw (inT_6 _ (List.mem_of_getElem? (i := 144) rfl)) rfl
theorem gw_1585 : (Cond.fieldLink "RelayHall" 908 "RelayHall$Queue" "lastServed" "LRelayHall$Consumer;") ∈ lw_G := x_gw (inT_6 _ (List.mem_of_getElem? (i := 145) rfl)) rfl
theorem gw_1586 : (Cond.fieldLink "RelayHall$Queue" 42 "RelayHall$Queue" "gone" "Z") ∈ lw_G := x_gw (inT_6 _ (List.mem_of_getElem? (i := 146) rfl)) rfl
theorem gw_1587 : (Cond.fieldLink "RelayHall" 708 "RelayHall$Queue" "gone" "Z") ∈ lw_G := x_gw (inT_6 _ (List.mem_of_getElem? (i := 147) rfl)) rfl
theorem gw_1618 : (Cond.methodLink "RelayHall" 655 ⟨"RelayHall$Queue", "takeArguments", "(LRelayHall$Table;)Z"⟩) ∈ lw_G := x_gw (inT_6 _ (List.mem_of_getElem? (i := 178) rfl)) rfl
theorem gw_1619 : (Cond.instanceMethod ⟨"RelayHall$Queue", "takeArguments", "(LRelayHall$Table;)Z"⟩) ∈ lw_G := x_gw (inT_6 _ (List.mem_of_getElem? (i := 179) rfl)) rfl
theorem gw_1620 : (Cond.selects "RelayHall$Queue" ⟨"RelayHall$Queue", "takeArguments", "(LRelayHall$Table;)Z"⟩ ⟨"RelayHall$Queue", "takeArguments", "(LRelayHall$Table;)Z"⟩) ∈ lw_G := x_gw (inT_6 _ (List.mem_of_getElem? (i := 180) rfl)) rfl
theorem gw_1621 : (Cond.code ⟨"RelayHall$Queue", "takeArguments", "(LRelayHall$Table;)Z"⟩ prog_10_method_3_code 4 (some .boolean)) ∈ lw_G := x_gw (inT_6 _ (List.mem_of_getElem? (i := 181) rfl)) rfl
theorem gw_1623 : (Cond.methodLink "RelayHall$Queue" 63 ⟨"RelayHall$Table", "numberOf", "(Ljava/lang/String;II)I"⟩) ∈ lw_G := x_gw (inT_6 _ (List.mem_of_getElem? (i := 183) rfl)) rfl
theorem gw_1624 : (Cond.instanceMethod ⟨"RelayHall$Table", "numberOf", "(Ljava/lang/String;II)I"⟩) ∈ lw_G := x_gw (inT_6 _ (List.mem_of_getElem? (i := 184) rfl)) rfl
theorem gw_1625 : (Cond.selects "RelayHall$Table" ⟨"RelayHall$Table", "numberOf", "(Ljava/lang/String;II)I"⟩ ⟨"RelayHall$Table", "numberOf", "(Ljava/lang/String;II)I"⟩) ∈ lw_G := x_gw (inT_6 _ (List.mem_of_getElem? (i := 185) rfl)) rfl
theorem gw_1626 : (Cond.code ⟨"RelayHall$Table", "numberOf", "(Ljava/lang/String;II)I"⟩ prog_12_method_8_code 6 (some .int)) ∈ lw_G := x_gw (inT_6 _ (List.mem_of_getElem? (i := 186) rfl)) rfl
theorem gw_1630 : (Cond.methodLink "RelayHall$Queue" 72 ⟨"RelayHall$Table", "textOf", "(Ljava/lang/String;)Ljava/lang/String;"⟩) ∈ lw_G := x_gw (inT_6 _ (List.mem_of_getElem? (i := 190) rfl)) rfl
theorem gw_1632 : (Cond.methodLink "RelayHall$Queue" 77 ⟨"RelayHall$Table", "isOtherThan", "(CLjava/lang/String;)Z"⟩) ∈ lw_G := x_gw (inT_6 _ (List.mem_of_getElem? (i := 192) rfl)) rfl
theorem gw_1633 : (Cond.instanceMethod ⟨"RelayHall$Table", "isOtherThan", "(CLjava/lang/String;)Z"⟩) ∈ lw_G := x_gw (inT_6 _ (List.mem_of_getElem? (i := 193) rfl)) rfl
theorem gw_1634 : (Cond.selects "RelayHall$Table" ⟨"RelayHall$Table", "isOtherThan", "(CLjava/lang/String;)Z"⟩ ⟨"RelayHall$Table", "isOtherThan", "(CLjava/lang/String;)Z"⟩) ∈ lw_G := x_gw (inT_6 _ (List.mem_of_getElem? (i := 194) rfl)) rfl
theorem gw_1635 : (Cond.code ⟨"RelayHall$Table", "isOtherThan", "(CLjava/lang/String;)Z"⟩ prog_12_method_7_code 4 (some .boolean)) ∈ lw_G := x_gw (inT_6 _ (List.mem_of_getElem? (i := 195) rfl)) rfl
theorem gw_1636 : (Cond.methodLink "RelayHall" 659 ⟨"RelayHall$Queue", "isLike", "(LRelayHall$Queue;)Z"⟩) ∈ lw_G := x_gw (inT_6 _ (List.mem_of_getElem? (i := 196) rfl)) rfl
theorem gw_1637 : (Cond.instanceMethod ⟨"RelayHall$Queue", "isLike", "(LRelayHall$Queue;)Z"⟩) ∈ lw_G := x_gw (inT_6 _ (List.mem_of_getElem? (i := 197) rfl)) rfl
theorem gw_1638 : (Cond.selects "RelayHall$Queue" ⟨"RelayHall$Queue", "isLike", "(LRelayHall$Queue;)Z"⟩ ⟨"RelayHall$Queue", "isLike", "(LRelayHall$Queue;)Z"⟩) ∈ lw_G := x_gw (inT_6 _ (List.mem_of_getElem? (i := 198) rfl)) rfl
theorem gw_1639 : (Cond.code ⟨"RelayHall$Queue", "isLike", "(LRelayHall$Queue;)Z"⟩ prog_10_method_4_code 2 (some .boolean)) ∈ lw_G := x_gw (inT_6 _ (List.mem_of_getElem? (i := 199) rfl)) rfl
theorem gw_1641 : (Cond.constant "RelayHall" 634 (3276811)) ∈ lw_G := x_gw (inT_6 _ (List.mem_of_getElem? (i := 201) rfl)) rfl
theorem gw_1642 : (Cond.methodLink "RelayHall" 346 ⟨"RelayHall$Connection", "text", "(Ljava/lang/String;)V"⟩) ∈ lw_G := x_gw (inT_6 _ (List.mem_of_getElem? (i := 202) rfl)) rfl
theorem gw_1643 : (Cond.instanceMethod ⟨"RelayHall$Connection", "text", "(Ljava/lang/String;)V"⟩) ∈ lw_G := x_gw (inT_6 _ (List.mem_of_getElem? (i := 203) rfl)) rfl
theorem gw_1644 : (Cond.selects "RelayHall$Connection" ⟨"RelayHall$Connection", "text", "(Ljava/lang/String;)V"⟩ ⟨"RelayHall$Connection", "text", "(Ljava/lang/String;)V"⟩) ∈ lw_G := x_gw (inT_6 _ (List.mem_of_getElem? (i := 204) rfl)) rfl
theorem gw_1645 : (Cond.code ⟨"RelayHall$Connection", "text", "(Ljava/lang/String;)V"⟩ prog_4_method_15_code 3 none) ∈ lw_G := x_gw (inT_6 _ (List.mem_of_getElem? (i := 205) rfl)) rfl
theorem gw_1646 : (Cond.methodLink "RelayHall$Connection" 93 ⟨"java/lang/String", "length", "()I"⟩) ∈ lw_G := x_gw (inT_6 _ (List.mem_of_getElem? (i := 206) rfl)) rfl
theorem gw_1647 : (Cond.methodLink "RelayHall$Connection" 98 ⟨"java/lang/String", "charAt", "(I)C"⟩) ∈ lw_G := x_gw (inT_6 _ (List.mem_of_getElem? (i := 207) rfl)) rfl
theorem gw_1648 : (Cond.methodLink "RelayHall" 238 ⟨"RelayHall", "consumersOf", "(LRelayHall$Queue;)I"⟩) ∈ lw_G := x_gw (inT_6 _ (List.mem_of_getElem? (i := 208) rfl)) rfl
theorem gw_1650 : (Cond.instanceMethod ⟨"RelayHall", "consumersOf", "(LRelayHall$Queue;)I"⟩) ∈ lw_G := x_gw (inT_6 _ (List.mem_of_getElem? (i := 210) rfl)) rfl
theorem gw_1651 : (Cond.code ⟨"RelayHall", "consumersOf", "(LRelayHall$Queue;)I"⟩ prog_1_method_23_code 4 (some .int)) ∈ lw_G := x_gw (inT_6 _ (List.mem_of_getElem? (i := 211) rfl)) rfl
theorem gw_1652 : (Cond.classLink "RelayHall" 290 "RelayHall$Consumer") ∈ lw_G := x_gw (inT_6 _ (List.mem_of_getElem? (i := 212) rfl)) rfl
theorem gw_1653 : (Cond.methodLink "RelayHall" 516 ⟨"RelayHall", "bind", "(LRelayHall$Channel;)V"⟩) ∈ lw_G := x_gw (inT_6 _ (List.mem_of_getElem? (i := 213) rfl)) rfl
theorem gw_1655 : (Cond.instanceMethod ⟨"RelayHall", "bind", "(LRelayHall$Channel;)V"⟩) ∈ lw_G := x_gw (inT_6 _ (List.mem_of_getElem? (i := 215) rfl)) rfl
theorem gw_1656 : (Cond.code ⟨"RelayHall", "bind", "(LRelayHall$Channel;)V"⟩ prog_1_method_70_code 10 none) ∈ lw_G := x_gw (inT_6 _ (List.mem_of_getElem? (i := 216) rfl)) rfl
theorem gw_1657 : (Cond.methodLink "RelayHall" 677 ⟨"RelayHall", "readQueueName", "(LRelayHall$Channel;)Ljava/lang/String;"⟩) ∈ lw_G := x_gw (inT_6 _ (List.mem_of_getElem? (i := 217) rfl)) rfl
theorem gw_1659 : (Cond.instanceMethod ⟨"RelayHall", "readQueueName", "(LRelayHall$Channel;)Ljava/lang/String;"⟩) ∈ lw_G := x_gw (inT_6 _ (List.mem_of_getElem? (i := 219) rfl)) rfl
theorem gw_1660 : (Cond.code ⟨"RelayHall", "readQueueName", "(LRelayHall$Channel;)Ljava/lang/String;"⟩ prog_1_method_66_code 3 (some (.object "java/lang/String"))) ∈ lw_G := x_gw (inT_6 _ (List.mem_of_getElem? (i := 220) rfl)) rfl
theorem gw_1661 : (Cond.instantiable "RelayHall$Binding" 7) ∈ lw_G := x_gw (inT_6 _ (List.mem_of_getElem? (i := 221) rfl)) rfl
theorem gw_1662 : (Cond.methodLink "RelayHall" 681 ⟨"RelayHall$Binding", "<init>", "(LRelayHall$Exchange;LRelayHall$Queue;Ljava/lang/String;LRelayHall$Table;)V"⟩) ∈ lw_G := x_gw (inT_6 _ (List.mem_of_getElem? (i := 222) rfl)) rfl
theorem gw_1663 : (Cond.instanceMethod ⟨"RelayHall$Binding", "<init>", "(LRelayHall$Exchange;LRelayHall$Queue;Ljava/lang/String;LRelayHall$Table;)V"⟩) ∈ lw_G := x_gw (inT_6 _ (List.mem_of_getElem? (i := 223) rfl)) rfl
theorem gw_1664 : (Cond.code ⟨"RelayHall$Binding", "<init>", "(LRelayHall$Exchange;LRelayHall$Queue;Ljava/lang/String;LRelayHall$Table;)V"⟩ prog_2_method_1_code 5 none) ∈ lw_G := x_gw (inT_6 _ (List.mem_of_getElem? (i := 224) rfl)) rfl
theorem gw_1667 : (Cond.methodLink "RelayHall$Binding" 29 ⟨"RelayHall$Table", "find", "(Ljava/lang/String;)I"⟩) ∈ lw_G := x_gw (inT_6 _ (List.mem_of_getElem? (i := 227) rfl)) rfl
theorem gw_1668 : (Cond.methodLink "RelayHall$Binding" 39 ⟨"RelayHall$Table", "textOf", "(Ljava/lang/String;)Ljava/lang/String;"⟩) ∈ lw_G := x_gw (inT_6 _ (List.mem_of_getElem? (i := 228) rfl)) rfl
theorem gw_1671 : (Cond.fieldLink "RelayHall$Binding" 9 "RelayHall$Binding" "exchange" "LRelayHall$Exchange;") ∈ lw_G := x_gw (inT_6 _ (List.mem_of_getElem? (i := 231) rfl)) rfl
theorem gw_1672 : (Cond.fieldLink "RelayHall" 314 "RelayHall$Binding" "exchange" "LRelayHall$Exchange;") ∈ lw_G := x_gw (inT_6 _ (List.mem_of_getElem? (i := 232) rfl)) rfl
theorem gw_1673 : (Cond.fieldLink "RelayHall$Binding" 15 "RelayHall$Binding" "queue" "LRelayHall$Queue;") ∈ lw_G := x_gw (inT_6 _ (List.mem_of_getElem? (i := 233) rfl)) rfl
theorem gw_1674 : (Cond.fieldLink "RelayHall" 313 "RelayHall$Binding" "queue" "LRelayHall$Queue;") ∈ lw_G := x_gw (inT_6 _ (List.mem_of_getElem? (i := 234) rfl)) rfl
theorem gw_1675 : (Cond.fieldLink "RelayHall$Binding" 19 "RelayHall$Binding" "key" "Ljava/lang/String;") ∈ lw_G := x_gw (inT_6 _ (List.mem_of_getElem? (i := 235) rfl)) rfl
theorem gw_1676 : (Cond.fieldLink "RelayHall$Binding" 23 "RelayHall$Binding" "table" "LRelayHall$Table;") ∈ lw_G := x_gw (inT_6 _ (List.mem_of_getElem? (i := 236) rfl)) rfl
theorem gw_1677 : (Cond.fieldLink "RelayHall$Binding" 35 "RelayHall$Binding" "matchEntry" "I") ∈ lw_G := x_gw (inT_6 _ (List.mem_of_getElem? (i := 237) rfl)) rfl
theorem gw_1678 : (Cond.fieldLink "RelayHall$Binding" 49 "RelayHall$Binding" "any" "Z") ∈ lw_G := x_gw (inT_6 _ (List.mem_of_getElem? (i := 238) rfl)) rfl
theorem gw_1693 : (Cond.methodLink "RelayHall" 684 ⟨"RelayHall", "findBinding", "(LRelayHall$Binding;)I"⟩) ∈ lw_G := x_gw (inT_7 _ (List.mem_of_getElem? (i := 13) rfl)) rfl
theorem gw_1695 : (Cond.instanceMethod ⟨"RelayHall", "findBinding", "(LRelayHall$Binding;)I"⟩) ∈ lw_G := x_gw (inT_7 _ (List.mem_of_getElem? (i := 15) rfl)) rfl
theorem gw_1696 : (Cond.code ⟨"RelayHall", "findBinding", "(LRelayHall$Binding;)I"⟩ prog_1_method_22_code 3 (some .int)) ∈ lw_G := x_gw (inT_7 _ (List.mem_of_getElem? (i := 16) rfl)) rfl
theorem gw_1697 : (Cond.methodLink "RelayHall" 301 ⟨"RelayHall$Binding", "isLike", "(LRelayHall$Binding;)Z"⟩) ∈ lw_G := x_gw (inT_7 _ (List.mem_of_getElem? (i := 17) rfl)) rfl
theorem gw_1698 : (Cond.instanceMethod ⟨"RelayHall$Binding", "isLike", "(LRelayHall$Binding;)Z"⟩) ∈ lw_G := x_gw (inT_7 _ (List.mem_of_getElem? (i := 18) rfl)) rfl
theorem gw_1699 : (Cond.selects "RelayHall$Binding" ⟨"RelayHall$Binding", "isLike", "(LRelayHall$Binding;)Z"⟩ ⟨"RelayHall$Binding", "isLike", "(LRelayHall$Binding;)Z"⟩) ∈ lw_G := x_gw (inT_7 _ (List.mem_of_getElem? (i := 19) rfl)) rfl
theorem gw_1700 : (Cond.code ⟨"RelayHall$Binding", "isLike", "(LRelayHall$Binding;)Z"⟩ prog_2_method_4_code 2 (some .boolean)) ∈ lw_G := x_gw (inT_7 _ (List.mem_of_getElem? (i := 20) rfl)) rfl
theorem gw_1701 : (Cond.methodLink "RelayHall$Binding" 62 ⟨"java/lang/String", "equals", "(Ljava/lang/Object;)Z"⟩) ∈ lw_G := x_gw (inT_7 _ (List.mem_of_getElem? (i := 21) rfl)) rfl
theorem gw_1702 : (Cond.methodLink "RelayHall$Binding" 68 ⟨"RelayHall$Table", "isLike", "(LRelayHall$Table;)Z"⟩) ∈ lw_G := x_gw (inT_7 _ (List.mem_of_getElem? (i := 22) rfl)) rfl
theorem gw_1703 : (Cond.instanceMethod ⟨"RelayHall$Table", "isLike", "(LRelayHall$Table;)Z"⟩) ∈ lw_G := x_gw (inT_7 _ (List.mem_of_getElem? (i := 23) rfl)) rfl
theorem gw_1704 : (Cond.selects "RelayHall$Table" ⟨"RelayHall$Table", "isLike", "(LRelayHall$Table;)Z"⟩ ⟨"RelayHall$Table", "isLike", "(LRelayHall$Table;)Z"⟩) ∈ lw_G := x_gw (inT_7 _ (List.mem_of_getElem? (i := 24) rfl)) rfl
theorem gw_1705 : (Cond.code ⟨"RelayHall$Table", "isLike", "(LRelayHall$Table;)Z"⟩ prog_12_method_12_code 4 (some .boolean)) ∈ lw_G := x_gw (inT_7 _ (List.mem_of_getElem? (i := 25) rfl)) rfl
theorem gw_1706 : (Cond.methodLink "RelayHall$Table" 64 ⟨"RelayHall$Table", "holds", "(LRelayHall$Table;I)Z"⟩) ∈ lw_G := x_gw (inT_7 _ (List.mem_of_getElem? (i := 26) rfl)) rfl
theorem gw_1707 : (Cond.instanceMethod ⟨"RelayHall$Table", "holds", "(LRelayHall$Table;I)Z"⟩) ∈ lw_G := x_gw (inT_7 _ (List.mem_of_getElem? (i := 27) rfl)) rfl
theorem gw_1708 : (Cond.selects "RelayHall$Table" ⟨"RelayHall$Table", "holds", "(LRelayHall$Table;I)Z"⟩ ⟨"RelayHall$Table", "holds", "(LRelayHall$Table;I)Z"⟩) ∈ lw_G := x_gw (inT_7 _ (List.mem_of_getElem? (i := 28) rfl)) rfl
theorem gw_1709 : (Cond.code ⟨"RelayHall$Table", "holds", "(LRelayHall$Table;I)Z"⟩ prog_12_method_11_code 6 (some .boolean)) ∈ lw_G := x_gw (inT_7 _ (List.mem_of_getElem? (i := 29) rfl)) rfl
theorem gw_1710 : (Cond.methodLink "RelayHall" 688 ⟨"RelayHall$Binding", "isRecorded", "()Z"⟩) ∈ lw_G := x_gw (inT_7 _ (List.mem_of_getElem? (i := 30) rfl)) rfl
theorem gw_1711 : (Cond.instanceMethod ⟨"RelayHall$Binding", "isRecorded", "()Z"⟩) ∈ lw_G := x_gw (inT_7 _ (List.mem_of_getElem? (i := 31) rfl)) rfl
theorem gw_1712 : (Cond.selects "RelayHall$Binding" ⟨"RelayHall$Binding", "isRecorded", "()Z"⟩ ⟨"RelayHall$Binding", "isRecorded", "()Z"⟩) ∈ lw_G := x_gw (inT_7 _ (List.mem_of_getElem? (i := 32) rfl)) rfl
theorem gw_1713 : (Cond.code ⟨"RelayHall$Binding", "isRecorded", "()Z"⟩ prog_2_method_3_code 1 (some .boolean)) ∈ lw_G := x_gw (inT_7 _ (List.mem_of_getElem? (i := 33) rfl)) rfl
theorem gw_1714 : (Cond.constant "RelayHall" 691 (3276821)) ∈ lw_G := x_gw (inT_7 _ (List.mem_of_getElem? (i := 34) rfl)) rfl
theorem gw_1715 : (Cond.methodLink "RelayHall" 519 ⟨"RelayHall", "unbind", "(LRelayHall$Channel;)V"⟩) ∈ lw_G := x_gw (inT_7 _ (List.mem_of_getElem? (i := 35) rfl)) rfl
theorem gw_1717 : (Cond.instanceMethod ⟨"RelayHall", "unbind", "(LRelayHall$Channel;)V"⟩) ∈ lw_G := x_gw (inT_7 _ (List.mem_of_getElem? (i := 37) rfl)) rfl
theorem gw_1718 : (Cond.code ⟨"RelayHall", "unbind", "(LRelayHall$Channel;)V"⟩ prog_1_method_71_code 10 none) ∈ lw_G := x_gw (inT_7 _ (List.mem_of_getElem? (i := 38) rfl)) rfl
theorem gw_1719 : (Cond.constant "RelayHall" 695 (3276851)) ∈ lw_G := x_gw (inT_7 _ (List.mem_of_getElem? (i := 39) rfl)) rfl
theorem gw_1720 : (Cond.methodLink "RelayHall" 522 ⟨"RelayHall", "purge", "(LRelayHall$Channel;)V"⟩) ∈ lw_G := x_gw (inT_7 _ (List.mem_of_getElem? (i := 40) rfl)) rfl
theorem gw_1722 : (Cond.instanceMethod ⟨"RelayHall", "purge", "(LRelayHall$Channel;)V"⟩) ∈ lw_G := x_gw (inT_7 _ (List.mem_of_getElem? (i := 42) rfl)) rfl
theorem gw_1723 : (Cond.code ⟨"RelayHall", "purge", "(LRelayHall$Channel;)V"⟩ prog_1_method_72_code 7 none) ∈ lw_G := x_gw (inT_7 _ (List.mem_of_getElem? (i := 43) rfl)) rfl
theorem gw_1724 : (Cond.classLink "RelayHall" 696 "RelayHall$Message") ∈ lw_G := x_gw (inT_7 _ (List.mem_of_getElem? (i := 44) rfl)) rfl
theorem gw_1725 : (Cond.methodLink "RelayHall" 698 ⟨"RelayHall", "leave", "(LRelayHall$Message;Z)V"⟩) ∈ lw_G := x_gw (inT_7 _ (List.mem_of_getElem? (i := 45) rfl)) rfl
theorem gw_1727 : (Cond.instanceMethod ⟨"RelayHall", "leave", "(LRelayHall$Message;Z)V"⟩) ∈ lw_G := x_gw (inT_7 _ (List.mem_of_getElem? (i := 47) rfl)) rfl
theorem gw_1728 : (Cond.code ⟨"RelayHall", "leave", "(LRelayHall$Message;Z)V"⟩ prog_1_method_89_code 3 none) ∈ lw_G := x_gw (inT_7 _ (List.mem_of_getElem? (i := 48) rfl)) rfl
theorem gw_1729 : (Cond.constant "RelayHall" 702 (3276831)) ∈ lw_G := x_gw (inT_7 _ (List.mem_of_getElem? (i := 49) rfl)) rfl
theorem gw_1730 : (Cond.methodLink "RelayHall" 525 ⟨"RelayHall", "deleteQueue", "(LRelayHall$Channel;)V"⟩) ∈ lw_G := x_gw (inT_7 _ (List.mem_of_getElem? (i := 50) rfl)) rfl
theorem gw_1732 : (Cond.instanceMethod ⟨"RelayHall", "deleteQueue", "(LRelayHall$Channel;)V"⟩) ∈ lw_G := x_gw (inT_7 _ (List.mem_of_getElem? (i := 52) rfl)) rfl
theorem gw_1733 : (Cond.code ⟨"RelayHall", "deleteQueue", "(LRelayHall$Channel;)V"⟩ prog_1_method_73_code 6 none) ∈ lw_G := x_gw (inT_7 _ (List.mem_of_getElem? (i := 53) rfl)) rfl
theorem gw_1734 : (Cond.methodLink "RelayHall" 381 ⟨"RelayHall", "removeQueue", "(LRelayHall$Queue;)V"⟩) ∈ lw_G := x_gw (inT_7 _ (List.mem_of_getElem? (i := 54) rfl)) rfl
theorem gw_1736 : (Cond.instanceMethod ⟨"RelayHall", "removeQueue", "(LRelayHall$Queue;)V"⟩) ∈ lw_G := x_gw (inT_7 _ (List.mem_of_getElem? (i := 56) rfl)) rfl
theorem gw_1737 : (Cond.code ⟨"RelayHall", "removeQueue", "(LRelayHall$Queue;)V"⟩ prog_1_method_75_code 5 none) ∈ lw_G := x_gw (inT_7 _ (List.mem_of_getElem? (i := 57) rfl)) rfl
theorem gw_1738 : (Cond.methodLink "RelayHall" 710 ⟨"RelayHall", "unbindAll", "(LRelayHall$Exchange;LRelayHall$Queue;)Z"⟩) ∈ lw_G := x_gw (inT_7 _ (List.mem_of_getElem? (i := 58) rfl)) rfl
theorem gw_1740 : (Cond.instanceMethod ⟨"RelayHall", "unbindAll", "(LRelayHall$Exchange;LRelayHall$Queue;)Z"⟩) ∈ lw_G := x_gw (inT_7 _ (List.mem_of_getElem? (i := 60) rfl)) rfl
theorem gw_1741 : (Cond.code ⟨"RelayHall", "unbindAll", "(LRelayHall$Exchange;LRelayHall$Queue;)Z"⟩ prog_1_method_76_code 6 (some .boolean)) ∈ lw_G := x_gw (inT_7 _ (List.mem_of_getElem? (i := 61) rfl)) rfl
theorem gw_1742 : (Cond.methodLink "RelayHall" 703 ⟨"RelayHall", "tellConsumers", "(LRelayHall$Queue;)V"⟩) ∈ lw_G := x_gw (inT_7 _ (List.mem_of_getElem? (i := 62) rfl)) rfl
theorem gw_1744 : (Cond.instanceMethod ⟨"RelayHall", "tellConsumers", "(LRelayHall$Queue;)V"⟩) ∈ lw_G := x_gw (inT_7 _ (List.mem_of_getElem? (i := 64) rfl)) rfl
theorem gw_1745 : (Cond.code ⟨"RelayHall", "tellConsumers", "(LRelayHall$Queue;)V"⟩ prog_1_method_74_code 6 none) ∈ lw_G := x_gw (inT_7 _ (List.mem_of_getElem? (i := 65) rfl)) rfl
theorem gw_1746 : (Cond.constant "RelayHall" 707 (3932190)) ∈ lw_G := x_gw (inT_7 _ (List.mem_of_getElem? (i := 66) rfl)) rfl
theorem gw_1747 : (Cond.constant "RelayHall" 706 (3276841)) ∈ lw_G := x_gw (inT_7 _ (List.mem_of_getElem? (i := 67) rfl)) rfl
theorem gw_1748 : (Cond.methodLink "RelayHall" 528 ⟨"RelayHall", "limit", "(LRelayHall$Channel;)V"⟩) ∈ lw_G := x_gw (inT_7 _ (List.mem_of_getElem? (i := 68) rfl)) rfl
theorem gw_1750 : (Cond.instanceMethod ⟨"RelayHall", "limit", "(LRelayHall$Channel;)V"⟩) ∈ lw_G := x_gw (inT_7 _ (List.mem_of_getElem? (i := 70) rfl)) rfl
theorem gw_1751 : (Cond.code ⟨"RelayHall", "limit", "(LRelayHall$Channel;)V"⟩ prog_1_method_91_code 4 none) ∈ lw_G := x_gw (inT_7 _ (List.mem_of_getElem? (i := 71) rfl)) rfl
theorem gw_1752 : (Cond.constant "RelayHall" 866 (3932171)) ∈ lw_G := x_gw (inT_7 _ (List.mem_of_getElem? (i := 72) rfl)) rfl
theorem gw_1753 : (Cond.methodLink "RelayHall" 531 ⟨"RelayHall", "consume", "(LRelayHall$Channel;)V"⟩) ∈ lw_G := x_gw (inT_7 _ (List.mem_of_getElem? (i := 73) rfl)) rfl
theorem gw_1755 : (Cond.instanceMethod ⟨"RelayHall", "consume", "(LRelayHall$Channel;)V"⟩) ∈ lw_G := x_gw (inT_7 _ (List.mem_of_getElem? (i := 75) rfl)) rfl
theorem gw_1756 : (Cond.code ⟨"RelayHall", "consume", "(LRelayHall$Channel;)V"⟩ prog_1_method_92_code 7 none) ∈ lw_G := x_gw (inT_7 _ (List.mem_of_getElem? (i := 76) rfl)) rfl
theorem gw_1757 : (Cond.methodLink "RelayHall" 867 ⟨"RelayHall", "hasAlone", "(LRelayHall$Queue;)Z"⟩) ∈ lw_G := x_gw (inT_7 _ (List.mem_of_getElem? (i := 77) rfl)) rfl
theorem gw_1759 : (Cond.instanceMethod ⟨"RelayHall", "hasAlone", "(LRelayHall$Queue;)Z"⟩) ∈ lw_G := x_gw (inT_7 _ (List.mem_of_getElem? (i := 79) rfl)) rfl
theorem gw_1760 : (Cond.code ⟨"RelayHall", "hasAlone", "(LRelayHall$Queue;)Z"⟩ prog_1_method_25_code 3 (some .boolean)) ∈ lw_G := x_gw (inT_7 _ (List.mem_of_getElem? (i := 80) rfl)) rfl
theorem gw_1761 : (Cond.methodLink "RelayHall" 870 ⟨"RelayHall", "findConsumer", "(LRelayHall$Channel;Ljava/lang/String;)I"⟩) ∈ lw_G := x_gw (inT_7 _ (List.mem_of_getElem? (i := 81) rfl)) rfl
theorem gw_1763 : (Cond.instanceMethod ⟨"RelayHall", "findConsumer", "(LRelayHall$Channel;Ljava/lang/String;)I"⟩) ∈ lw_G := x_gw (inT_7 _ (List.mem_of_getElem? (i := 83) rfl)) rfl
theorem gw_1764 : (Cond.code ⟨"RelayHall", "findConsumer", "(LRelayHall$Channel;Ljava/lang/String;)I"⟩ prog_1_method_21_code 4 (some .int)) ∈ lw_G := x_gw (inT_7 _ (List.mem_of_getElem? (i := 84) rfl)) rfl
theorem gw_1765 : (Cond.instantiable "RelayHall$Consumer" 7) ∈ lw_G := x_gw (inT_7 _ (List.mem_of_getElem? (i := 85) rfl)) rfl
theorem gw_1766 : (Cond.methodLink "RelayHall" 874 ⟨"RelayHall", "freeTag", "(LRelayHall$Channel;)Ljava/lang/String;"⟩) ∈ lw_G := x_gw (inT_7 _ (List.mem_of_getElem? (i := 86) rfl)) rfl
theorem gw_1768 : (Cond.instanceMethod ⟨"RelayHall", "freeTag", "(LRelayHall$Channel;)Ljava/lang/String;"⟩) ∈ lw_G := x_gw (inT_7 _ (List.mem_of_getElem? (i := 88) rfl)) rfl
theorem gw_1769 : (Cond.code ⟨"RelayHall", "freeTag", "(LRelayHall$Channel;)Ljava/lang/String;"⟩ prog_1_method_93_code 3 (some (.object "java/lang/String"))) ∈ lw_G := x_gw (inT_7 _ (List.mem_of_getElem? (i := 89) rfl)) rfl
theorem gw_1771 : (Cond.methodLink "RelayHall" 877 ⟨"RelayHall$Consumer", "<init>", "(LRelayHall$Channel;LRelayHall$Queue;Ljava/lang/String;I)V"⟩) ∈ lw_G := x_gw (inT_7 _ (List.mem_of_getElem? (i := 91) rfl)) rfl
theorem gw_1772 : (Cond.instanceMethod ⟨"RelayHall$Consumer", "<init>", "(LRelayHall$Channel;LRelayHall$Queue;Ljava/lang/String;I)V"⟩) ∈ lw_G := x_gw (inT_7 _ (List.mem_of_getElem? (i := 92) rfl)) rfl
theorem gw_1773 : (Cond.code ⟨"RelayHall$Consumer", "<init>", "(LRelayHall$Channel;LRelayHall$Queue;Ljava/lang/String;I)V"⟩ prog_5_method_1_code 5 none) ∈ lw_G := x_gw (inT_7 _ (List.mem_of_getElem? (i := 93) rfl)) rfl
theorem gw_1774 : (Cond.methodLink "RelayHall$Consumer" 3 ⟨"java/lang/Object", "<init>", "()V"⟩) ∈ lw_G := x_gw (inT_7 _ (List.mem_of_getElem? (i := 94) rfl)) rfl
theorem gw_1775 : (Cond.fieldLink "RelayHall$Consumer" 15 "RelayHall$Consumer" "channel" "LRelayHall$Channel;") ∈ lw_G := x_gw (inT_7 _ (List.mem_of_getElem? (i := 95) rfl)) rfl
theorem gw_1776 : (Cond.fieldLink "RelayHall" 292 "RelayHall$Consumer" "channel" "LRelayHall$Channel;") ∈ lw_G := x_gw (inT_7 _ (List.mem_of_getElem? (i := 96) rfl)) rfl
theorem gw_1777 : (Cond.fieldLink "RelayHall$Consumer" 19 "RelayHall$Consumer" "queue" "LRelayHall$Queue;") ∈ lw_G := x_gw (inT_7 _ (List.mem_of_getElem? (i := 97) rfl)) rfl
theorem gw_1778 : (Cond.fieldLink "RelayHall" 305 "RelayHall$Consumer" "queue" "LRelayHall$Queue;") ∈ lw_G := x_gw (inT_7 _ (List.mem_of_getElem? (i := 98) rfl)) rfl
theorem gw_1779 : (Cond.fieldLink "RelayHall$Consumer" 23 "RelayHall$Consumer" "tag" "Ljava/lang/String;") ∈ lw_G := x_gw (inT_7 _ (List.mem_of_getElem? (i := 99) rfl)) rfl
theorem gw_1780 : (Cond.fieldLink "RelayHall" 296 "RelayHall$Consumer" "tag" "Ljava/lang/String;") ∈ lw_G := x_gw (inT_7 _ (List.mem_of_getElem? (i := 100) rfl)) rfl
theorem gw_1781 : (Cond.fieldLink "RelayHall$Consumer" 27 "RelayHall$Consumer" "noAck" "Z") ∈ lw_G := x_gw (inT_7 _ (List.mem_of_getElem? (i := 101) rfl)) rfl
theorem gw_1782 : (Cond.fieldLink "RelayHall" 915 "RelayHall$Consumer" "noAck" "Z") ∈ lw_G := x_gw (inT_7 _ (List.mem_of_getElem? (i := 102) rfl)) rfl
theorem gw_1783 : (Cond.fieldLink "RelayHall$Consumer" 31 "RelayHall$Consumer" "alone" "Z") ∈ lw_G := x_gw (inT_7 _ (List.mem_of_getElem? (i := 103) rfl)) rfl
theorem gw_1784 : (Cond.fieldLink "RelayHall" 309 "RelayHall$Consumer" "alone" "Z") ∈ lw_G := x_gw (inT_7 _ (List.mem_of_getElem? (i := 104) rfl)) rfl
theorem gw_1785 : (Cond.fieldLink "RelayHall$Consumer" 39 "RelayHall$Consumer" "limit" "I") ∈ lw_G := x_gw (inT_7 _ (List.mem_of_getElem? (i := 105) rfl)) rfl
theorem gw_1786 : (Cond.fieldLink "RelayHall$Consumer" 9 "RelayHall$Consumer" "unacked" "I") ∈ lw_G := x_gw (inT_7 _ (List.mem_of_getElem? (i := 106) rfl)) rfl
theorem gw_1787 : (Cond.fieldLink "RelayHall" 934 "RelayHall$Consumer" "unacked" "I") ∈ lw_G := x_gw (inT_7 _ (List.mem_of_getElem? (i := 107) rfl)) rfl
theorem gw_1803 : (Cond.constant "RelayHall" 880 (3932181)) ∈ lw_G := x_gw (inT_7 _ (List.mem_of_getElem? (i := 123) rfl)) rfl
theorem gw_1804 : (Cond.methodLink "RelayHall" 881 ⟨"RelayHall", "answerText", "(LRelayHall$Channel;ILjava/lang/String;)V"⟩) ∈ lw_G := x_gw (inT_7 _ (List.mem_of_getElem? (i := 124) rfl)) rfl
theorem gw_1806 : (Cond.instanceMethod ⟨"RelayHall", "answerText", "(LRelayHall$Channel;ILjava/lang/String;)V"⟩) ∈ lw_G := x_gw (inT_7 _ (List.mem_of_getElem? (i := 126) rfl)) rfl
theorem gw_1807 : (Cond.code ⟨"RelayHall", "answerText", "(LRelayHall$Channel;ILjava/lang/String;)V"⟩ prog_1_method_32_code 4 none) ∈ lw_G := x_gw (inT_7 _ (List.mem_of_getElem? (i := 127) rfl)) rfl
theorem gw_1808 : (Cond.methodLink "RelayHall" 534 ⟨"RelayHall", "cancel", "(LRelayHall$Channel;)V"⟩) ∈ lw_G := x_gw (inT_7 _ (List.mem_of_getElem? (i := 128) rfl)) rfl
theorem gw_1810 : (Cond.instanceMethod ⟨"RelayHall", "cancel", "(LRelayHall$Channel;)V"⟩) ∈ lw_G := x_gw (inT_7 _ (List.mem_of_getElem? (i := 130) rfl)) rfl
theorem gw_1811 : (Cond.code ⟨"RelayHall", "cancel", "(LRelayHall$Channel;)V"⟩ prog_1_method_94_code 5 none) ∈ lw_G := x_gw (inT_7 _ (List.mem_of_getElem? (i := 131) rfl)) rfl
theorem gw_1812 : (Cond.methodLink "RelayHall" 385 ⟨"RelayHall", "removeConsumer", "(I)V"⟩) ∈ lw_G := x_gw (inT_7 _ (List.mem_of_getElem? (i := 132) rfl)) rfl
theorem gw_1814 : (Cond.instanceMethod ⟨"RelayHall", "removeConsumer", "(I)V"⟩) ∈ lw_G := x_gw (inT_7 _ (List.mem_of_getElem? (i := 134) rfl)) rfl
theorem gw_1815 : (Cond.code ⟨"RelayHall", "removeConsumer", "(I)V"⟩ prog_1_method_95_code 3 none) ∈ lw_G := x_gw (inT_7 _ (List.mem_of_getElem? (i := 135) rfl)) rfl
theorem gw_1816 : (Cond.constant "RelayHall" 890 (3932191)) ∈ lw_G := x_gw (inT_7 _ (List.mem_of_getElem? (i := 136) rfl)) rfl
theorem gw_1817 : (Cond.methodLink "RelayHall" 537 ⟨"RelayHall", "beginContent", "(LRelayHall$Channel;)V"⟩) ∈ lw_G := x_gw (inT_7 _ (List.mem_of_getElem? (i := 137) rfl)) rfl
theorem gw_1819 : (Cond.instanceMethod ⟨"RelayHall", "beginContent", "(LRelayHall$Channel;)V"⟩) ∈ lw_G := x_gw (inT_7 _ (List.mem_of_getElem? (i := 139) rfl)) rfl
theorem gw_1820 : (Cond.code ⟨"RelayHall", "beginContent", "(LRelayHall$Channel;)V"⟩ prog_1_method_77_code 6 none) ∈ lw_G := x_gw (inT_7 _ (List.mem_of_getElem? (i := 140) rfl)) rfl
theorem gw_1821 : (Cond.instantiable "RelayHall$Message" 19) ∈ lw_G := x_gw (inT_7 _ (List.mem_of_getElem? (i := 141) rfl)) rfl
theorem gw_1822 : (Cond.methodLink "RelayHall" 717 ⟨"RelayHall$Message", "<init>", "(Ljava/lang/String;Ljava/lang/String;Z)V"⟩) ∈ lw_G := x_gw (inT_7 _ (List.mem_of_getElem? (i := 142) rfl)) rfl
theorem gw_1823 : (Cond.instanceMethod ⟨"RelayHall$Message", "<init>", "(Ljava/lang/String;Ljava/lang/String;Z)V"⟩) ∈ lw_G := x_gw (inT_7 _ (List.mem_of_getElem? (i := 143) rfl)) rfl
theorem gw_1824 : (Cond.code ⟨"RelayHall$Message", "<init>", "(Ljava/lang/String;Ljava/lang/String;Z)V"⟩ prog_9_method_1_code 4 none) ∈ lw_G := x_gw (inT_7 _ (List.mem_of_getElem? (i := 144) rfl)) rfl
theorem gw_1826 : (Cond.constantLong "RelayHall$Message" 19 (-1)) ∈ lw_G := x_gw (inT_7 _ (List.mem_of_getElem? (i := 146) rfl)) rfl
theorem gw_1827 : (Cond.fieldLink "RelayHall$Message" 65 "RelayHall$Message" "exchange" "Ljava/lang/String;") ∈ lw_G := x_gw (inT_7 _ (List.mem_of_getElem? (i := 147) rfl)) rfl
theorem gw_1828 : (Cond.fieldLink "RelayHall" 786 "RelayHall$Message" "exchange" "Ljava/lang/String;") ∈ lw_G := x_gw (inT_7 _ (List.mem_of_getElem? (i := 148) rfl)) rfl
theorem gw_1829 : (Cond.fieldLink "RelayHall$Message" 69 "RelayHall$Message" "key" "Ljava/lang/String;") ∈ lw_G := x_gw (inT_7 _ (List.mem_of_getElem? (i := 149) rfl)) rfl
theorem gw_1830 : (Cond.fieldLink "RelayHall$Binding" 75 "RelayHall$Message" "key" "Ljava/lang/String;") ∈ lw_G := x_gw (inT_7 _ (List.mem_of_getElem? (i := 150) rfl)) rfl
theorem gw_1831 : (Cond.fieldLink "RelayHall" 788 "RelayHall$Message" "key" "Ljava/lang/String;") ∈ lw_G := x_gw (inT_7 _ (List.mem_of_getElem? (i := 151) rfl)) rfl
theorem gw_1832 : (Cond.fieldLink "RelayHall$Message" 72 "RelayHall$Message" "mandatory" "Z") ∈ lw_G := x_gw (inT_7 _ (List.mem_of_getElem? (i := 152) rfl)) rfl
theorem gw_1833 : (Cond.fieldLink "RelayHall" 779 "RelayHall$Message" "mandatory" "Z") ∈ lw_G := x_gw (inT_7 _ (List.mem_of_getElem? (i := 153) rfl)) rfl
theorem gw_1834 : (Cond.fieldLink "RelayHall$Message" 9 "RelayHall$Message" "priority" "I") ∈ lw_G := x_gw (inT_7 _ (List.mem_of_getElem? (i := 154) rfl)) rfl
theorem gw_1835 : (Cond.fieldLink "RelayHall" 724 "RelayHall$Message" "priority" "I") ∈ lw_G := x_gw (inT_7 _ (List.mem_of_getElem? (i := 155) rfl)) rfl
theorem gw_1836 : (Cond.fieldLink "RelayHall$Message" 15 "RelayHall$Message" "persistent" "Z") ∈ lw_G := x_gw (inT_7 _ (List.mem_of_getElem? (i := 156) rfl)) rfl
theorem gw_1837 : (Cond.fieldLink "RelayHall" 727 "RelayHall$Message" "persistent" "Z") ∈ lw_G := x_gw (inT_7 _ (List.mem_of_getElem? (i := 157) rfl)) rfl
theorem gw_1838 : (Cond.fieldLink "RelayHall$Message" 21 "RelayHall$Message" "expiration" "J") ∈ lw_G := x_gw (inT_7 _ (List.mem_of_getElem? (i := 158) rfl)) rfl
theorem gw_1839 : (Cond.fieldLink "RelayHall" 732 "RelayHall$Message" "expiration" "J") ∈ lw_G := x_gw (inT_7 _ (List.mem_of_getElem? (i := 159) rfl)) rfl
theorem gw_1840 : (Cond.fieldLink "RelayHall$Message" 25 "RelayHall$Message" "headers" "LRelayHall$Table;") ∈ lw_G := x_gw (inT_7 _ (List.mem_of_getElem? (i := 160) rfl)) rfl
theorem gw_1841 : (Cond.fieldLink "RelayHall$Binding" 81 "RelayHall$Message" "headers" "LRelayHall$Table;") ∈ lw_G := x_gw (inT_7 _ (List.mem_of_getElem? (i := 161) rfl)) rfl
theorem gw_1842 : (Cond.fieldLink "RelayHall" 736 "RelayHall$Message" "headers" "LRelayHall$Table;") ∈ lw_G := x_gw (inT_7 _ (List.mem_of_getElem? (i := 162) rfl)) rfl
theorem gw_1843 : (Cond.fieldLink "RelayHall$Message" 29 "RelayHall$Message" "body" "[B") ∈ lw_G := x_gw (inT_7 _ (List.mem_of_getElem? (i := 163) rfl)) rfl
theorem gw_1844 : (Cond.fieldLink "RelayHall" 742 "RelayHall$Message" "body" "[B") ∈ lw_G := x_gw (inT_7 _ (List.mem_of_getElem? (i := 164) rfl)) rfl
theorem gw_1845 : (Cond.fieldLink "RelayHall$Message" 33 "RelayHall$Message" "deaths" "I") ∈ lw_G := x_gw (inT_7 _ (List.mem_of_getElem? (i := 165) rfl)) rfl
theorem gw_1846 : (Cond.fieldLink "RelayHall" 857 "RelayHall$Message" "deaths" "I") ∈ lw_G := x_gw (inT_7 _ (List.mem_of_getElem? (i := 166) rfl)) rfl
theorem gw_1847 : (Cond.fieldLink "RelayHall$Message" 36 "RelayHall$Message" "queue" "LRelayHall$Queue;") ∈ lw_G := x_gw (inT_7 _ (List.mem_of_getElem? (i := 167) rfl)) rfl
theorem gw_1848 : (Cond.fieldLink "RelayHall" 853 "RelayHall$Message" "queue" "LRelayHall$Queue;") ∈ lw_G := x_gw (inT_7 _ (List.mem_of_getElem? (i := 168) rfl)) rfl
theorem gw_1849 : (Cond.fieldLink "RelayHall$Message" 40 "RelayHall$Message" "recorded" "Z") ∈ lw_G := x_gw (inT_7 _ (List.mem_of_getElem? (i := 169) rfl)) rfl
theorem gw_1850 : (Cond.fieldLink "RelayHall" 833 "RelayHall$Message" "recorded" "Z") ∈ lw_G := x_gw (inT_7 _ (List.mem_of_getElem? (i := 170) rfl)) rfl
theorem gw_1851 : (Cond.fieldLink "RelayHall$Message" 43 "RelayHall$Message" "number" "I") ∈ lw_G := x_gw (inT_7 _ (List.mem_of_getElem? (i := 171) rfl)) rfl
theorem gw_1852 : (Cond.fieldLink "RelayHall$Message" 46 "RelayHall$Message" "rank" "I") ∈ lw_G := x_gw (inT_7 _ (List.mem_of_getElem? (i := 172) rfl)) rfl
theorem gw_1853 : (Cond.fieldLink "RelayHall$Message" 49 "RelayHall$Message" "came" "I") ∈ lw_G := x_gw (inT_7 _ (List.mem_of_getElem? (i := 173) rfl)) rfl
theorem gw_1854 : (Cond.fieldLink "RelayHall" 977 "RelayHall$Message" "came" "I") ∈ lw_G := x_gw (inT_7 _ (List.mem_of_getElem? (i := 174) rfl)) rfl
theorem gw_1855 : (Cond.fieldLink "RelayHall$Message" 52 "RelayHall$Message" "redelivered" "Z") ∈ lw_G := x_gw (inT_7 _ (List.mem_of_getElem? (i := 175) rfl)) rfl
theorem gw_1856 : (Cond.fieldLink "RelayHall" 923 "RelayHall$Message" "redelivered" "Z") ∈ lw_G := x_gw (inT_7 _ (List.mem_of_getElem? (i := 176) rfl)) rfl
theorem gw_1857 : (Cond.fieldLink "RelayHall$Message" 55 "RelayHall$Message" "tag" "I") ∈ lw_G := x_gw (inT_7 _ (List.mem_of_getElem? (i := 177) rfl)) rfl
theorem gw_1858 : (Cond.fieldLink "RelayHall$Channel" 103 "RelayHall$Message" "tag" "I") ∈ lw_G := x_gw (inT_7 _ (List.mem_of_getElem? (i := 178) rfl)) rfl
theorem gw_1859 : (Cond.fieldLink "RelayHall" 926 "RelayHall$Message" "tag" "I") ∈ lw_G := x_gw (inT_7 _ (List.mem_of_getElem? (i := 179) rfl)) rfl
theorem gw_1860 : (Cond.fieldLink "RelayHall$Message" 58 "RelayHall$Message" "consumer" "LRelayHall$Consumer;") ∈ lw_G := x_gw (inT_7 _ (List.mem_of_getElem? (i := 180) rfl)) rfl
theorem gw_1861 : (Cond.fieldLink "RelayHall" 928 "RelayHall$Message" "consumer" "LRelayHall$Consumer;") ∈ lw_G := x_gw (inT_7 _ (List.mem_of_getElem? (i := 181) rfl)) rfl
theorem gw_1862 : (Cond.fieldLink "RelayHall$Message" 62 "RelayHall$Message" "mark" "I") ∈ lw_G := x_gw (inT_7 _ (List.mem_of_getElem? (i := 182) rfl)) rfl
theorem gw_1863 : (Cond.fieldLink "RelayHall$Channel" 100 "RelayHall$Message" "mark" "I") ∈ lw_G := x_gw (inT_7 _ (List.mem_of_getElem? (i := 183) rfl)) rfl
theorem gw_1864 : (Cond.fieldLink "RelayHall" 931 "RelayHall$Message" "mark" "I") ∈ lw_G := x_gw (inT_7 _ (List.mem_of_getElem? (i := 184) rfl)) rfl
theorem gw_1903 : (Cond.methodLink "RelayHall" 540 ⟨"RelayHall", "get", "(LRelayHall$Channel;)V"⟩) ∈ lw_G := x_gw (inT_7 _ (List.mem_of_getElem? (i := 223) rfl)) rfl
theorem gw_1905 : (Cond.instanceMethod ⟨"RelayHall", "get", "(LRelayHall$Channel;)V"⟩) ∈ lw_G := x_gw (inT_7 _ (List.mem_of_getElem? (i := 225) rfl)) rfl
theorem gw_1906 : (Cond.code ⟨"RelayHall", "get", "(LRelayHall$Channel;)V"⟩ prog_1_method_101_code 7 none) ∈ lw_G := x_gw (inT_7 _ (List.mem_of_getElem? (i := 226) rfl)) rfl
theorem gw_1907 : (Cond.methodLink "RelayHall" 782 ⟨"java/util/ArrayList", "isEmpty", "()Z"⟩) ∈ lw_G := x_gw (inT_7 _ (List.mem_of_getElem? (i := 227) rfl)) rfl
theorem gw_1908 : (Cond.instanceMethod ⟨"java/util/ArrayList", "isEmpty", "()Z"⟩) ∈ lw_G := x_gw (inT_7 _ (List.mem_of_getElem? (i := 228) rfl)) rfl
theorem gw_1909 : (Cond.selects "java/util/ArrayList" ⟨"java/util/ArrayList", "isEmpty", "()Z"⟩ ⟨"java/util/ArrayList", "isEmpty", "()Z"⟩) ∈ lw_G := x_gw (inT_7 _ (List.mem_of_getElem? (i := 229) rfl)) rfl
theorem gw_1910 : (Cond.code ⟨"java/util/ArrayList", "isEmpty", "()Z"⟩ prog_50_method_9_code 1 (some .boolean)) ∈ lw_G := x_gw (inT_7 _ (List.mem_of_getElem? (i := 230) rfl)) rfl
theorem gw_1911 : (Cond.constant "RelayHall" 938 (3932232)) ∈ lw_G := x_gw (inT_7 _ (List.mem_of_getElem? (i := 231) rfl)) rfl
theorem gw_1912 : (Cond.methodLink "RelayHall" 918 ⟨"RelayHall", "handOver", "(LRelayHall$Queue;LRelayHall$Channel;LRelayHall$Consumer;Z)LRelayHall$Message;"⟩) ∈ lw_G := x_gw (inT_7 _ (List.mem_of_getElem? (i := 232) rfl)) rfl
theorem gw_1914 : (Cond.instanceMethod ⟨"RelayHall", "handOver", "(LRelayHall$Queue;LRelayHall$Channel;LRelayHall$Consumer;Z)LRelayHall$Message;"⟩) ∈ lw_G := x_gw (inT_7 _ (List.mem_of_getElem? (i := 234) rfl)) rfl
theorem gw_1915 : (Cond.code ⟨"RelayHall", "handOver", "(LRelayHall$Queue;LRelayHall$Channel;LRelayHall$Consumer;Z)LRelayHall$Message;"⟩ prog_1_method_100_code 6 (some (.object "RelayHall$Message"))) ∈ lw_G := x_gw (inT_7 _ (List.mem_of_getElem? (i := 235) rfl)) rfl
theorem gw_1916 : (Cond.constant "RelayHall" 939 (3932231)) ∈ lw_G := x_gw (inT_7 _ (List.mem_of_getElem? (i := 236) rfl)) rfl
theorem gw_1917 : (Cond.methodLink "RelayHall" 791 ⟨"RelayHall", "draftContent", "(LRelayHall$Channel;LRelayHall$Message;)V"⟩) ∈ lw_G := x_gw (inT_7 _ (List.mem_of_getElem? (i := 237) rfl)) rfl
theorem gw_1919 : (Cond.instanceMethod ⟨"RelayHall", "draftContent", "(LRelayHall$Channel;LRelayHall$Message;)V"⟩) ∈ lw_G := x_gw (inT_7 _ (List.mem_of_getElem? (i := 239) rfl)) rfl
theorem gw_1920 : (Cond.code ⟨"RelayHall", "draftContent", "(LRelayHall$Channel;LRelayHall$Message;)V"⟩ prog_1_method_84_code 4 none) ∈ lw_G := x_gw (inT_8 _ (List.mem_of_getElem? (i := 0) rfl)) rfl
theorem gw_1921 : (Cond.methodLink "RelayHall" 807 ⟨"RelayHall$Connection", "frame", "(II)V"⟩) ∈ lw_G := x_gw (inT_8 _ (List.mem_of_getElem? (i := 1) rfl)) rfl
theorem gw_1922 : (Cond.instanceMethod ⟨"RelayHall$Connection", "frame", "(II)V"⟩) ∈ lw_G := x_gw (inT_8 _ (List.mem_of_getElem? (i := 2) rfl)) rfl
theorem gw_1923 : (Cond.selects "RelayHall$Connection" ⟨"RelayHall$Connection", "frame", "(II)V"⟩ ⟨"RelayHall$Connection", "frame", "(II)V"⟩) ∈ lw_G := x_gw (inT_8 _ (List.mem_of_getElem? (i := 3) rfl)) rfl
theorem gw_1924 : (Cond.code ⟨"RelayHall$Connection", "frame", "(II)V"⟩ prog_4_method_13_code 3 none) ∈ lw_G := x_gw (inT_8 _ (List.mem_of_getElem? (i := 4) rfl)) rfl
theorem gw_1925 : (Cond.constantLong "RelayHall" 810 (60)) ∈ lw_G := x_gw (inT_8 _ (List.mem_of_getElem? (i := 5) rfl)) rfl
theorem gw_1926 : (Cond.methodLink "RelayHall" 812 ⟨"RelayHall$Message", "flags", "()I"⟩) ∈ lw_G := x_gw (inT_8 _ (List.mem_of_getElem? (i := 6) rfl)) rfl
theorem gw_1927 : (Cond.instanceMethod ⟨"RelayHall$Message", "flags", "()I"⟩) ∈ lw_G := x_gw (inT_8 _ (List.mem_of_getElem? (i := 7) rfl)) rfl
theorem gw_1928 : (Cond.selects "RelayHall$Message" ⟨"RelayHall$Message", "flags", "()I"⟩ ⟨"RelayHall$Message", "flags", "()I"⟩) ∈ lw_G := x_gw (inT_8 _ (List.mem_of_getElem? (i := 8) rfl)) rfl
theorem gw_1929 : (Cond.code ⟨"RelayHall$Message", "flags", "()I"⟩ prog_9_method_8_code 1 (some .int)) ∈ lw_G := x_gw (inT_8 _ (List.mem_of_getElem? (i := 9) rfl)) rfl
theorem gw_1930 : (Cond.constantLong "RelayHall" 730 (-1)) ∈ lw_G := x_gw (inT_8 _ (List.mem_of_getElem? (i := 10) rfl)) rfl
theorem gw_1931 : (Cond.methodLink "RelayHall" 249 ⟨"java/lang/String", "length", "()I"⟩) ∈ lw_G := x_gw (inT_8 _ (List.mem_of_getElem? (i := 11) rfl)) rfl
theorem gw_1932 : (Cond.methodLink "RelayHall" 818 ⟨"RelayHall$Connection", "chars", "(Ljava/lang/String;)V"⟩) ∈ lw_G := x_gw (inT_8 _ (List.mem_of_getElem? (i := 12) rfl)) rfl
theorem gw_1933 : (Cond.instanceMethod ⟨"RelayHall$Connection", "chars", "(Ljava/lang/String;)V"⟩) ∈ lw_G := x_gw (inT_8 _ (List.mem_of_getElem? (i := 13) rfl)) rfl
theorem gw_1934 : (Cond.selects "RelayHall$Connection" ⟨"RelayHall$Connection", "chars", "(Ljava/lang/String;)V"⟩ ⟨"RelayHall$Connection", "chars", "(Ljava/lang/String;)V"⟩) ∈ lw_G := x_gw (inT_8 _ (List.mem_of_getElem? (i := 14) rfl)) rfl
theorem gw_1935 : (Cond.code ⟨"RelayHall$Connection", "chars", "(Ljava/lang/String;)V"⟩ prog_4_method_16_code 3 none) ∈ lw_G := x_gw (inT_8 _ (List.mem_of_getElem? (i := 15) rfl)) rfl
theorem gw_1936 : (Cond.methodLink "RelayHall" 821 ⟨"RelayHall$Connection", "bytes", "([B)V"⟩) ∈ lw_G := x_gw (inT_8 _ (List.mem_of_getElem? (i := 16) rfl)) rfl
theorem gw_1937 : (Cond.instanceMethod ⟨"RelayHall$Connection", "bytes", "([B)V"⟩) ∈ lw_G := x_gw (inT_8 _ (List.mem_of_getElem? (i := 17) rfl)) rfl
theorem gw_1938 : (Cond.selects "RelayHall$Connection" ⟨"RelayHall$Connection", "bytes", "([B)V"⟩ ⟨"RelayHall$Connection", "bytes", "([B)V"⟩) ∈ lw_G := x_gw (inT_8 _ (List.mem_of_getElem? (i := 18) rfl)) rfl
theorem gw_1939 : (Cond.code ⟨"RelayHall$Connection", "bytes", "([B)V"⟩ prog_4_method_17_code 3 none) ∈ lw_G := x_gw (inT_8 _ (List.mem_of_getElem? (i := 19) rfl)) rfl
theorem gw_1940 : (Cond.methodLink "RelayHall" 542 ⟨"RelayHall", "acknowledge", "(LRelayHall$Channel;)V"⟩) ∈ lw_G := x_gw (inT_8 _ (List.mem_of_getElem? (i := 20) rfl)) rfl
theorem gw_1942 : (Cond.instanceMethod ⟨"RelayHall", "acknowledge", "(LRelayHall$Channel;)V"⟩) ∈ lw_G := x_gw (inT_8 _ (List.mem_of_getElem? (i := 22) rfl)) rfl
theorem gw_1943 : (Cond.code ⟨"RelayHall", "acknowledge", "(LRelayHall$Channel;)V"⟩ prog_1_method_102_code 10 none) ∈ lw_G := x_gw (inT_8 _ (List.mem_of_getElem? (i := 23) rfl)) rfl
theorem gw_1944 : (Cond.constant "RelayHall" 806 (3932240)) ∈ lw_G := x_gw (inT_8 _ (List.mem_of_getElem? (i := 24) rfl)) rfl
theorem gw_1945 : (Cond.constant "RelayHall" 940 (3932280)) ∈ lw_G := x_gw (inT_8 _ (List.mem_of_getElem? (i := 25) rfl)) rfl
theorem gw_1946 : (Cond.constant "RelayHall" 941 (3932250)) ∈ lw_G := x_gw (inT_8 _ (List.mem_of_getElem? (i := 26) rfl)) rfl
theorem gw_1947 : (Cond.methodLink "RelayHall" 942 ⟨"RelayHall$Channel", "hasUnacked", "(J)Z"⟩) ∈ lw_G := x_gw (inT_8 _ (List.mem_of_getElem? (i := 27) rfl)) rfl
theorem gw_1948 : (Cond.instanceMethod ⟨"RelayHall$Channel", "hasUnacked", "(J)Z"⟩) ∈ lw_G := x_gw (inT_8 _ (List.mem_of_getElem? (i := 28) rfl)) rfl
theorem gw_1949 : (Cond.selects "RelayHall$Channel" ⟨"RelayHall$Channel", "hasUnacked", "(J)Z"⟩ ⟨"RelayHall$Channel", "hasUnacked", "(J)Z"⟩) ∈ lw_G := x_gw (inT_8 _ (List.mem_of_getElem? (i := 29) rfl)) rfl
theorem gw_1950 : (Cond.code ⟨"RelayHall$Channel", "hasUnacked", "(J)Z"⟩ prog_3_method_6_code 4 (some .boolean)) ∈ lw_G := x_gw (inT_8 _ (List.mem_of_getElem? (i := 30) rfl)) rfl
theorem gw_1951 : (Cond.methodLink "RelayHall$Channel" 92 ⟨"java/util/ArrayList", "size", "()I"⟩) ∈ lw_G := x_gw (inT_8 _ (List.mem_of_getElem? (i := 31) rfl)) rfl
theorem gw_1952 : (Cond.methodLink "RelayHall$Channel" 96 ⟨"java/util/ArrayList", "get", "(I)Ljava/lang/Object;"⟩) ∈ lw_G := x_gw (inT_8 _ (List.mem_of_getElem? (i := 32) rfl)) rfl
theorem gw_1953 : (Cond.methodLink "RelayHall" 946 ⟨"RelayHall$Channel", "markUnacked", "(JZ)V"⟩) ∈ lw_G := x_gw (inT_8 _ (List.mem_of_getElem? (i := 33) rfl)) rfl
theorem gw_1954 : (Cond.instanceMethod ⟨"RelayHall$Channel", "markUnacked", "(JZ)V"⟩) ∈ lw_G := x_gw (inT_8 _ (List.mem_of_getElem? (i := 34) rfl)) rfl
theorem gw_1955 : (Cond.selects "RelayHall$Channel" ⟨"RelayHall$Channel", "markUnacked", "(JZ)V"⟩ ⟨"RelayHall$Channel", "markUnacked", "(JZ)V"⟩) ∈ lw_G := x_gw (inT_8 _ (List.mem_of_getElem? (i := 35) rfl)) rfl
theorem gw_1956 : (Cond.code ⟨"RelayHall$Channel", "markUnacked", "(JZ)V"⟩ prog_3_method_7_code 7 none) ∈ lw_G := x_gw (inT_8 _ (List.mem_of_getElem? (i := 36) rfl)) rfl
theorem gw_1957 : (Cond.methodLink "RelayHall" 763 ⟨"RelayHall$Channel", "keep", "(ILRelayHall$Message;)V"⟩) ∈ lw_G := x_gw (inT_8 _ (List.mem_of_getElem? (i := 37) rfl)) rfl
theorem gw_1958 : (Cond.instanceMethod ⟨"RelayHall$Channel", "keep", "(ILRelayHall$Message;)V"⟩) ∈ lw_G := x_gw (inT_8 _ (List.mem_of_getElem? (i := 38) rfl)) rfl
theorem gw_1959 : (Cond.selects "RelayHall$Channel" ⟨"RelayHall$Channel", "keep", "(ILRelayHall$Message;)V"⟩ ⟨"RelayHall$Channel", "keep", "(ILRelayHall$Message;)V"⟩) ∈ lw_G := x_gw (inT_8 _ (List.mem_of_getElem? (i := 39) rfl)) rfl
theorem gw_1960 : (Cond.code ⟨"RelayHall$Channel", "keep", "(ILRelayHall$Message;)V"⟩ prog_3_method_4_code 3 none) ∈ lw_G := x_gw (inT_8 _ (List.mem_of_getElem? (i := 40) rfl)) rfl
theorem gw_1961 : (Cond.methodLink "RelayHall" 950 ⟨"RelayHall", "finishMarked", "(LRelayHall$Channel;II)V"⟩) ∈ lw_G := x_gw (inT_8 _ (List.mem_of_getElem? (i := 41) rfl)) rfl
theorem gw_1963 : (Cond.instanceMethod ⟨"RelayHall", "finishMarked", "(LRelayHall$Channel;II)V"⟩) ∈ lw_G := x_gw (inT_8 _ (List.mem_of_getElem? (i := 43) rfl)) rfl
theorem gw_1964 : (Cond.code ⟨"RelayHall", "finishMarked", "(LRelayHall$Channel;II)V"⟩ prog_1_method_104_code 6 none) ∈ lw_G := x_gw (inT_8 _ (List.mem_of_getElem? (i := 44) rfl)) rfl
theorem gw_1965 : (Cond.methodLink "RelayHall" 388 ⟨"RelayHall", "finish", "(LRelayHall$Channel;II)V"⟩) ∈ lw_G := x_gw (inT_8 _ (List.mem_of_getElem? (i := 45) rfl)) rfl
theorem gw_1967 : (Cond.instanceMethod ⟨"RelayHall", "finish", "(LRelayHall$Channel;II)V"⟩) ∈ lw_G := x_gw (inT_8 _ (List.mem_of_getElem? (i := 47) rfl)) rfl
theorem gw_1968 : (Cond.code ⟨"RelayHall", "finish", "(LRelayHall$Channel;II)V"⟩ prog_1_method_105_code 6 none) ∈ lw_G := x_gw (inT_8 _ (List.mem_of_getElem? (i := 48) rfl)) rfl
theorem gw_1969 : (Cond.methodLink "RelayHall" 843 ⟨"RelayHall$Queue", "insert", "(LRelayHall$Message;)V"⟩) ∈ lw_G := x_gw (inT_8 _ (List.mem_of_getElem? (i := 49) rfl)) rfl
theorem gw_1970 : (Cond.instanceMethod ⟨"RelayHall$Queue", "insert", "(LRelayHall$Message;)V"⟩) ∈ lw_G := x_gw (inT_8 _ (List.mem_of_getElem? (i := 50) rfl)) rfl
theorem gw_1971 : (Cond.selects "RelayHall$Queue" ⟨"RelayHall$Queue", "insert", "(LRelayHall$Message;)V"⟩ ⟨"RelayHall$Queue", "insert", "(LRelayHall$Message;)V"⟩) ∈ lw_G := x_gw (inT_8 _ (List.mem_of_getElem? (i := 51) rfl)) rfl
theorem gw_1972 : (Cond.code ⟨"RelayHall$Queue", "insert", "(LRelayHall$Message;)V"⟩ prog_10_method_6_code 3 none) ∈ lw_G := x_gw (inT_8 _ (List.mem_of_getElem? (i := 52) rfl)) rfl
theorem gw_1973 : (Cond.methodLink "RelayHall$Queue" 88 ⟨"java/util/ArrayList", "size", "()I"⟩) ∈ lw_G := x_gw (inT_8 _ (List.mem_of_getElem? (i := 53) rfl)) rfl
theorem gw_1974 : (Cond.methodLink "RelayHall$Queue" 92 ⟨"java/util/ArrayList", "get", "(I)Ljava/lang/Object;"⟩) ∈ lw_G := x_gw (inT_8 _ (List.mem_of_getElem? (i := 54) rfl)) rfl
theorem gw_1975 : (Cond.classLink "RelayHall$Queue" 96 "RelayHall$Message") ∈ lw_G := x_gw (inT_8 _ (List.mem_of_getElem? (i := 55) rfl)) rfl
theorem gw_1976 : (Cond.methodLink "RelayHall$Queue" 98 ⟨"RelayHall$Message", "isBehind", "(LRelayHall$Message;)Z"⟩) ∈ lw_G := x_gw (inT_8 _ (List.mem_of_getElem? (i := 56) rfl)) rfl
theorem gw_1977 : (Cond.instanceMethod ⟨"RelayHall$Message", "isBehind", "(LRelayHall$Message;)Z"⟩) ∈ lw_G := x_gw (inT_8 _ (List.mem_of_getElem? (i := 57) rfl)) rfl
theorem gw_1978 : (Cond.selects "RelayHall$Message" ⟨"RelayHall$Message", "isBehind", "(LRelayHall$Message;)Z"⟩ ⟨"RelayHall$Message", "isBehind", "(LRelayHall$Message;)Z"⟩) ∈ lw_G := x_gw (inT_8 _ (List.mem_of_getElem? (i := 58) rfl)) rfl
theorem gw_1979 : (Cond.code ⟨"RelayHall$Message", "isBehind", "(LRelayHall$Message;)Z"⟩ prog_9_method_6_code 2 (some .boolean)) ∈ lw_G := x_gw (inT_8 _ (List.mem_of_getElem? (i := 59) rfl)) rfl
theorem gw_1980 : (Cond.methodLink "RelayHall$Queue" 102 ⟨"java/util/ArrayList", "add", "(ILjava/lang/Object;)V"⟩) ∈ lw_G := x_gw (inT_8 _ (List.mem_of_getElem? (i := 60) rfl)) rfl
theorem gw_1981 : (Cond.instanceMethod ⟨"java/util/ArrayList", "add", "(ILjava/lang/Object;)V"⟩) ∈ lw_G := x_gw (inT_8 _ (List.mem_of_getElem? (i := 61) rfl)) rfl
theorem gw_1982 : (Cond.selects "java/util/ArrayList" ⟨"java/util/ArrayList", "add", "(ILjava/lang/Object;)V"⟩ ⟨"java/util/ArrayList", "add", "(ILjava/lang/Object;)V"⟩) ∈ lw_G := x_gw (inT_8 _ (List.mem_of_getElem? (i := 62) rfl)) rfl
theorem gw_1983 : (Cond.code ⟨"java/util/ArrayList", "add", "(ILjava/lang/Object;)V"⟩ prog_50_method_26_code 5 none) ∈ lw_G := x_gw (inT_8 _ (List.mem_of_getElem? (i := 63) rfl)) rfl
theorem gw_1984 : (Cond.methodLink "java/util/ArrayList" 135 ⟨"java/util/ArrayList", "rangeCheckForAdd", "(I)V"⟩) ∈ lw_G := x_gw (inT_8 _ (List.mem_of_getElem? (i := 64) rfl)) rfl
theorem gw_1986 : (Cond.instanceMethod ⟨"java/util/ArrayList", "rangeCheckForAdd", "(I)V"⟩) ∈ lw_G := x_gw (inT_8 _ (List.mem_of_getElem? (i := 66) rfl)) rfl
theorem gw_1987 : (Cond.code ⟨"java/util/ArrayList", "rangeCheckForAdd", "(I)V"⟩ prog_50_method_45_code 2 none) ∈ lw_G := x_gw (inT_8 _ (List.mem_of_getElem? (i := 67) rfl)) rfl
theorem gw_1988 : (Cond.classLink "java/util/ArrayList" 187 "java/lang/IndexOutOfBoundsException") ∈ lw_G := x_gw (inT_8 _ (List.mem_of_getElem? (i := 68) rfl)) rfl
theorem gw_1989 : (Cond.instantiable "java/lang/IndexOutOfBoundsException" 6) ∈ lw_G := x_gw (inT_8 _ (List.mem_of_getElem? (i := 69) rfl)) rfl
theorem gw_1997 : (Cond.methodLink "java/util/ArrayList" 198 ⟨"java/util/ArrayList", "outOfBoundsMsg", "(I)Ljava/lang/String;"⟩) ∈ lw_G := x_gw (inT_8 _ (List.mem_of_getElem? (i := 77) rfl)) rfl
theorem gw_1999 : (Cond.instanceMethod ⟨"java/util/ArrayList", "outOfBoundsMsg", "(I)Ljava/lang/String;"⟩) ∈ lw_G := x_gw (inT_8 _ (List.mem_of_getElem? (i := 79) rfl)) rfl
theorem gw_2000 : (Cond.code ⟨"java/util/ArrayList", "outOfBoundsMsg", "(I)Ljava/lang/String;"⟩ prog_50_method_46_code 2 (some (.object "java/lang/String"))) ∈ lw_G := x_gw (inT_8 _ (List.mem_of_getElem? (i := 80) rfl)) rfl
theorem gw_2001 : (Cond.classLink "java/util/ArrayList" 20 "java/lang/StringBuilder") ∈ lw_G := x_gw (inT_8 _ (List.mem_of_getElem? (i := 81) rfl)) rfl
theorem gw_2002 : (Cond.methodLink "java/util/ArrayList" 22 ⟨"java/lang/StringBuilder", "<init>", "()V"⟩) ∈ lw_G := x_gw (inT_8 _ (List.mem_of_getElem? (i := 82) rfl)) rfl
theorem gw_2004 : (Cond.methodLink "java/util/ArrayList" 25 ⟨"java/lang/StringBuilder", "append", "(Ljava/lang/String;)Ljava/lang/StringBuilder;"⟩) ∈ lw_G := x_gw (inT_8 _ (List.mem_of_getElem? (i := 84) rfl)) rfl
theorem gw_2005 : (Cond.methodLink "java/util/ArrayList" 29 ⟨"java/lang/StringBuilder", "append", "(I)Ljava/lang/StringBuilder;"⟩) ∈ lw_G := x_gw (inT_8 _ (List.mem_of_getElem? (i := 85) rfl)) rfl
theorem gw_2007 : (Cond.methodLink "java/util/ArrayList" 32 ⟨"java/lang/StringBuilder", "toString", "()Ljava/lang/String;"⟩) ∈ lw_G := x_gw (inT_8 _ (List.mem_of_getElem? (i := 87) rfl)) rfl
theorem gw_2008 : (Cond.methodLink "java/util/ArrayList" 193 ⟨"java/lang/IndexOutOfBoundsException", "<init>", "(Ljava/lang/String;)V"⟩) ∈ lw_G := x_gw (inT_8 _ (List.mem_of_getElem? (i := 88) rfl)) rfl
theorem gw_2011 : (Cond.methodLink "RelayHall" 847 ⟨"RelayHall", "trim", "(LRelayHall$Queue;)V"⟩) ∈ lw_G := x_gw (inT_8 _ (List.mem_of_getElem? (i := 91) rfl)) rfl
theorem gw_2013 : (Cond.instanceMethod ⟨"RelayHall", "trim", "(LRelayHall$Queue;)V"⟩) ∈ lw_G := x_gw (inT_8 _ (List.mem_of_getElem? (i := 93) rfl)) rfl
theorem gw_2014 : (Cond.code ⟨"RelayHall", "trim", "(LRelayHall$Queue;)V"⟩ prog_1_method_88_code 3 none) ∈ lw_G := x_gw (inT_8 _ (List.mem_of_getElem? (i := 94) rfl)) rfl
theorem gw_2015 : (Cond.methodLink "RelayHall" 545 ⟨"RelayHall", "recover", "(LRelayHall$Channel;)V"⟩) ∈ lw_G := x_gw (inT_8 _ (List.mem_of_getElem? (i := 95) rfl)) rfl
theorem gw_2017 : (Cond.instanceMethod ⟨"RelayHall", "recover", "(LRelayHall$Channel;)V"⟩) ∈ lw_G := x_gw (inT_8 _ (List.mem_of_getElem? (i := 97) rfl)) rfl
theorem gw_2018 : (Cond.code ⟨"RelayHall", "recover", "(LRelayHall$Channel;)V"⟩ prog_1_method_103_code 3 none) ∈ lw_G := x_gw (inT_8 _ (List.mem_of_getElem? (i := 98) rfl)) rfl
theorem gw_2019 : (Cond.constant "RelayHall" 953 (3932271)) ∈ lw_G := x_gw (inT_8 _ (List.mem_of_getElem? (i := 99) rfl)) rfl
theorem gw_2020 : (Cond.methodLink "RelayHall" 548 ⟨"RelayHall", "selectConfirms", "(LRelayHall$Channel;)V"⟩) ∈ lw_G := x_gw (inT_8 _ (List.mem_of_getElem? (i := 100) rfl)) rfl
theorem gw_2022 : (Cond.instanceMethod ⟨"RelayHall", "selectConfirms", "(LRelayHall$Channel;)V"⟩) ∈ lw_G := x_gw (inT_8 _ (List.mem_of_getElem? (i := 102) rfl)) rfl
theorem gw_2023 : (Cond.code ⟨"RelayHall", "selectConfirms", "(LRelayHall$Channel;)V"⟩ prog_1_method_109_code 3 none) ∈ lw_G := x_gw (inT_8 _ (List.mem_of_getElem? (i := 103) rfl)) rfl
theorem gw_2024 : (Cond.constant "RelayHall" 967 (5570571)) ∈ lw_G := x_gw (inT_8 _ (List.mem_of_getElem? (i := 104) rfl)) rfl
theorem gw_2025 : (Cond.methodLink "RelayHall" 551 ⟨"RelayHall", "selectTransactions", "(LRelayHall$Channel;)V"⟩) ∈ lw_G := x_gw (inT_8 _ (List.mem_of_getElem? (i := 105) rfl)) rfl
theorem gw_2027 : (Cond.instanceMethod ⟨"RelayHall", "selectTransactions", "(LRelayHall$Channel;)V"⟩) ∈ lw_G := x_gw (inT_8 _ (List.mem_of_getElem? (i := 107) rfl)) rfl
theorem gw_2028 : (Cond.code ⟨"RelayHall", "selectTransactions", "(LRelayHall$Channel;)V"⟩ prog_1_method_106_code 2 none) ∈ lw_G := x_gw (inT_8 _ (List.mem_of_getElem? (i := 108) rfl)) rfl
theorem gw_2029 : (Cond.constant "RelayHall" 954 (5898251)) ∈ lw_G := x_gw (inT_8 _ (List.mem_of_getElem? (i := 109) rfl)) rfl
theorem gw_2030 : (Cond.methodLink "RelayHall" 554 ⟨"RelayHall", "commit", "(LRelayHall$Channel;)V"⟩) ∈ lw_G := x_gw (inT_8 _ (List.mem_of_getElem? (i := 110) rfl)) rfl
theorem gw_2032 : (Cond.instanceMethod ⟨"RelayHall", "commit", "(LRelayHall$Channel;)V"⟩) ∈ lw_G := x_gw (inT_8 _ (List.mem_of_getElem? (i := 112) rfl)) rfl
theorem gw_2033 : (Cond.code ⟨"RelayHall", "commit", "(LRelayHall$Channel;)V"⟩ prog_1_method_107_code 3 none) ∈ lw_G := x_gw (inT_8 _ (List.mem_of_getElem? (i := 113) rfl)) rfl
theorem gw_2034 : (Cond.methodLink "RelayHall" 760 ⟨"RelayHall", "isFull", "()Z"⟩) ∈ lw_G := x_gw (inT_8 _ (List.mem_of_getElem? (i := 114) rfl)) rfl
theorem gw_2036 : (Cond.instanceMethod ⟨"RelayHall", "isFull", "()Z"⟩) ∈ lw_G := x_gw (inT_8 _ (List.mem_of_getElem? (i := 116) rfl)) rfl
theorem gw_2037 : (Cond.code ⟨"RelayHall", "isFull", "()Z"⟩ prog_1_method_28_code 1 (some .boolean)) ∈ lw_G := x_gw (inT_8 _ (List.mem_of_getElem? (i := 117) rfl)) rfl
theorem gw_2038 : (Cond.methodLink "RelayHall" 767 ⟨"RelayHall", "spread", "(LRelayHall$Message;)Z"⟩) ∈ lw_G := x_gw (inT_8 _ (List.mem_of_getElem? (i := 118) rfl)) rfl
theorem gw_2040 : (Cond.instanceMethod ⟨"RelayHall", "spread", "(LRelayHall$Message;)Z"⟩) ∈ lw_G := x_gw (inT_8 _ (List.mem_of_getElem? (i := 120) rfl)) rfl
theorem gw_2041 : (Cond.code ⟨"RelayHall", "spread", "(LRelayHall$Message;)Z"⟩ prog_1_method_85_code 5 (some .boolean)) ∈ lw_G := x_gw (inT_8 _ (List.mem_of_getElem? (i := 121) rfl)) rfl
theorem gw_2042 : (Cond.methodLink "RelayHall" 825 ⟨"RelayHall", "route", "(LRelayHall$Exchange;LRelayHall$Message;)V"⟩) ∈ lw_G := x_gw (inT_8 _ (List.mem_of_getElem? (i := 122) rfl)) rfl
theorem gw_2044 : (Cond.instanceMethod ⟨"RelayHall", "route", "(LRelayHall$Exchange;LRelayHall$Message;)V"⟩) ∈ lw_G := x_gw (inT_8 _ (List.mem_of_getElem? (i := 124) rfl)) rfl
theorem gw_2045 : (Cond.code ⟨"RelayHall", "route", "(LRelayHall$Exchange;LRelayHall$Message;)V"⟩ prog_1_method_86_code 10 none) ∈ lw_G := x_gw (inT_8 _ (List.mem_of_getElem? (i := 125) rfl)) rfl
theorem gw_2046 : (Cond.methodLink "RelayHall" 375 ⟨"java/util/ArrayList", "clear", "()V"⟩) ∈ lw_G := x_gw (inT_8 _ (List.mem_of_getElem? (i := 126) rfl)) rfl
theorem gw_2047 : (Cond.methodLink "RelayHall" 836 ⟨"RelayHall$Binding", "matches", "(LRelayHall$Message;)Z"⟩) ∈ lw_G := x_gw (inT_8 _ (List.mem_of_getElem? (i := 127) rfl)) rfl
theorem gw_2048 : (Cond.instanceMethod ⟨"RelayHall$Binding", "matches", "(LRelayHall$Message;)Z"⟩) ∈ lw_G := x_gw (inT_8 _ (List.mem_of_getElem? (i := 128) rfl)) rfl
theorem gw_2049 : (Cond.selects "RelayHall$Binding" ⟨"RelayHall$Binding", "matches", "(LRelayHall$Message;)Z"⟩ ⟨"RelayHall$Binding", "matches", "(LRelayHall$Message;)Z"⟩) ∈ lw_G := x_gw (inT_8 _ (List.mem_of_getElem? (i := 129) rfl)) rfl
theorem gw_2050 : (Cond.code ⟨"RelayHall$Binding", "matches", "(LRelayHall$Message;)Z"⟩ prog_2_method_5_code 2 (some .boolean)) ∈ lw_G := x_gw (inT_8 _ (List.mem_of_getElem? (i := 130) rfl)) rfl
theorem gw_2051 : (Cond.methodLink "RelayHall$Binding" 78 ⟨"RelayHall$Binding", "topicMatches", "(Ljava/lang/String;Ljava/lang/String;)Z"⟩) ∈ lw_G := x_gw (inT_8 _ (List.mem_of_getElem? (i := 131) rfl)) rfl
theorem gw_2052 : (Cond.static ⟨"RelayHall$Binding", "topicMatches", "(Ljava/lang/String;Ljava/lang/String;)Z"⟩) ∈ lw_G := x_gw (inT_8 _ (List.mem_of_getElem? (i := 132) rfl)) rfl
theorem gw_2053 : (Cond.code ⟨"RelayHall$Binding", "topicMatches", "(Ljava/lang/String;Ljava/lang/String;)Z"⟩ prog_2_method_7_code 7 (some .boolean)) ∈ lw_G := x_gw (inT_8 _ (List.mem_of_getElem? (i := 133) rfl)) rfl
theorem gw_2054 : (Cond.methodLink "RelayHall$Binding" 94 ⟨"java/lang/String", "length", "()I"⟩) ∈ lw_G := x_gw (inT_8 _ (List.mem_of_getElem? (i := 134) rfl)) rfl
theorem gw_2055 : (Cond.constant "RelayHall$Binding" 98 (1000000)) ∈ lw_G := x_gw (inT_8 _ (List.mem_of_getElem? (i := 135) rfl)) rfl
theorem gw_2056 : (Cond.methodLink "RelayHall$Binding" 99 ⟨"RelayHall$Binding", "isWord", "(Ljava/lang/String;IC)Z"⟩) ∈ lw_G := x_gw (inT_8 _ (List.mem_of_getElem? (i := 136) rfl)) rfl
theorem gw_2057 : (Cond.static ⟨"RelayHall$Binding", "isWord", "(Ljava/lang/String;IC)Z"⟩) ∈ lw_G := x_gw (inT_8 _ (List.mem_of_getElem? (i := 137) rfl)) rfl
theorem gw_2058 : (Cond.code ⟨"RelayHall$Binding", "isWord", "(Ljava/lang/String;IC)Z"⟩ prog_2_method_8_code 3 (some .boolean)) ∈ lw_G := x_gw (inT_8 _ (List.mem_of_getElem? (i := 138) rfl)) rfl
theorem gw_2059 : (Cond.methodLink "RelayHall$Binding" 111 ⟨"java/lang/String", "charAt", "(I)C"⟩) ∈ lw_G := x_gw (inT_8 _ (List.mem_of_getElem? (i := 139) rfl)) rfl
theorem gw_2060 : (Cond.methodLink "RelayHall$Binding" 103 ⟨"RelayHall$Binding", "isSameWord", "(Ljava/lang/String;ILjava/lang/String;I)Z"⟩) ∈ lw_G := x_gw (inT_8 _ (List.mem_of_getElem? (i := 140) rfl)) rfl
theorem gw_2061 : (Cond.static ⟨"RelayHall$Binding", "isSameWord", "(Ljava/lang/String;ILjava/lang/String;I)Z"⟩) ∈ lw_G := x_gw (inT_8 _ (List.mem_of_getElem? (i := 141) rfl)) rfl
theorem gw_2062 : (Cond.code ⟨"RelayHall$Binding", "isSameWord", "(Ljava/lang/String;ILjava/lang/String;I)Z"⟩ prog_2_method_10_code 7 (some .boolean)) ∈ lw_G := x_gw (inT_8 _ (List.mem_of_getElem? (i := 142) rfl)) rfl
theorem gw_2063 : (Cond.methodLink "RelayHall$Binding" 107 ⟨"RelayHall$Binding", "nextWord", "(Ljava/lang/String;I)I"⟩) ∈ lw_G := x_gw (inT_8 _ (List.mem_of_getElem? (i := 143) rfl)) rfl
theorem gw_2064 : (Cond.static ⟨"RelayHall$Binding", "nextWord", "(Ljava/lang/String;I)I"⟩) ∈ lw_G := x_gw (inT_8 _ (List.mem_of_getElem? (i := 144) rfl)) rfl
theorem gw_2065 : (Cond.code ⟨"RelayHall$Binding", "nextWord", "(Ljava/lang/String;I)I"⟩ prog_2_method_9_code 3 (some .int)) ∈ lw_G := x_gw (inT_8 _ (List.mem_of_getElem? (i := 145) rfl)) rfl
theorem gw_2066 : (Cond.methodLink "RelayHall$Binding" 84 ⟨"RelayHall$Binding", "tableMatches", "(LRelayHall$Table;)Z"⟩) ∈ lw_G := x_gw (inT_8 _ (List.mem_of_getElem? (i := 146) rfl)) rfl
theorem gw_2068 : (Cond.instanceMethod ⟨"RelayHall$Binding", "tableMatches", "(LRelayHall$Table;)Z"⟩) ∈ lw_G := x_gw (inT_8 _ (List.mem_of_getElem? (i := 148) rfl)) rfl
theorem gw_2069 : (Cond.code ⟨"RelayHall$Binding", "tableMatches", "(LRelayHall$Table;)Z"⟩ prog_2_method_6_code 4 (some .boolean)) ∈ lw_G := x_gw (inT_8 _ (List.mem_of_getElem? (i := 149) rfl)) rfl
theorem gw_2070 : (Cond.methodLink "RelayHall$Binding" 90 ⟨"RelayHall$Table", "holds", "(LRelayHall$Table;I)Z"⟩) ∈ lw_G := x_gw (inT_8 _ (List.mem_of_getElem? (i := 150) rfl)) rfl
theorem gw_2071 : (Cond.methodLink "RelayHall" 829 ⟨"RelayHall", "comeTo", "(LRelayHall$Queue;LRelayHall$Message;)LRelayHall$Message;"⟩) ∈ lw_G := x_gw (inT_8 _ (List.mem_of_getElem? (i := 151) rfl)) rfl
theorem gw_2073 : (Cond.instanceMethod ⟨"RelayHall", "comeTo", "(LRelayHall$Queue;LRelayHall$Message;)LRelayHall$Message;"⟩) ∈ lw_G := x_gw (inT_8 _ (List.mem_of_getElem? (i := 153) rfl)) rfl
theorem gw_2074 : (Cond.code ⟨"RelayHall", "comeTo", "(LRelayHall$Queue;LRelayHall$Message;)LRelayHall$Message;"⟩ prog_1_method_87_code 4 (some (.object "RelayHall$Message"))) ∈ lw_G := x_gw (inT_8 _ (List.mem_of_getElem? (i := 154) rfl)) rfl
theorem gw_2075 : (Cond.methodLink "RelayHall" 839 ⟨"RelayHall$Message", "inQueue", "(LRelayHall$Queue;II)LRelayHall$Message;"⟩) ∈ lw_G := x_gw (inT_8 _ (List.mem_of_getElem? (i := 155) rfl)) rfl
theorem gw_2076 : (Cond.instanceMethod ⟨"RelayHall$Message", "inQueue", "(LRelayHall$Queue;II)LRelayHall$Message;"⟩) ∈ lw_G := x_gw (inT_8 _ (List.mem_of_getElem? (i := 156) rfl)) rfl
theorem gw_2077 : (Cond.selects "RelayHall$Message" ⟨"RelayHall$Message", "inQueue", "(LRelayHall$Queue;II)LRelayHall$Message;"⟩ ⟨"RelayHall$Message", "inQueue", "(LRelayHall$Queue;II)LRelayHall$Message;"⟩) ∈ lw_G := x_gw (inT_8 _ (List.mem_of_getElem? (i := 157) rfl)) rfl
theorem gw_2078 : (Cond.code ⟨"RelayHall$Message", "inQueue", "(LRelayHall$Queue;II)LRelayHall$Message;"⟩ prog_9_method_3_code 5 (some (.object "RelayHall$Message"))) ∈ lw_G := x_gw (inT_8 _ (List.mem_of_getElem? (i := 158) rfl)) rfl
theorem gw_2079 : (Cond.classLink "RelayHall$Message" 10 "RelayHall$Message") ∈ lw_G := x_gw (inT_8 _ (List.mem_of_getElem? (i := 159) rfl)) rfl
theorem gw_2080 : (Cond.methodLink "RelayHall$Message" 75 ⟨"RelayHall$Message", "<init>", "(LRelayHall$Message;Ljava/lang/String;Ljava/lang/String;)V"⟩) ∈ lw_G := x_gw (inT_8 _ (List.mem_of_getElem? (i := 160) rfl)) rfl
theorem gw_2081 : (Cond.instanceMethod ⟨"RelayHall$Message", "<init>", "(LRelayHall$Message;Ljava/lang/String;Ljava/lang/String;)V"⟩) ∈ lw_G := x_gw (inT_8 _ (List.mem_of_getElem? (i := 161) rfl)) rfl
theorem gw_2082 : (Cond.code ⟨"RelayHall$Message", "<init>", "(LRelayHall$Message;Ljava/lang/String;Ljava/lang/String;)V"⟩ prog_9_method_2_code 4 none) ∈ lw_G := x_gw (inT_8 _ (List.mem_of_getElem? (i := 162) rfl)) rfl
theorem gw_2083 : (Cond.methodLink "RelayHall$Message" 86 ⟨"java/lang/Math", "min", "(II)I"⟩) ∈ lw_G := x_gw (inT_8 _ (List.mem_of_getElem? (i := 163) rfl)) rfl
theorem gw_2084 : (Cond.methodLink "RelayHall" 771 ⟨"RelayHall", "giveBack", "(LRelayHall$Channel;LRelayHall$Message;)V"⟩) ∈ lw_G := x_gw (inT_8 _ (List.mem_of_getElem? (i := 164) rfl)) rfl
theorem gw_2086 : (Cond.instanceMethod ⟨"RelayHall", "giveBack", "(LRelayHall$Channel;LRelayHall$Message;)V"⟩) ∈ lw_G := x_gw (inT_8 _ (List.mem_of_getElem? (i := 166) rfl)) rfl
theorem gw_2087 : (Cond.code ⟨"RelayHall", "giveBack", "(LRelayHall$Channel;LRelayHall$Message;)V"⟩ prog_1_method_81_code 4 none) ∈ lw_G := x_gw (inT_8 _ (List.mem_of_getElem? (i := 167) rfl)) rfl
theorem gw_2088 : (Cond.constant "RelayHall" 783 (3932210)) ∈ lw_G := x_gw (inT_8 _ (List.mem_of_getElem? (i := 168) rfl)) rfl
theorem gw_2089 : (Cond.constantLong "RelayHall" 784 (312)) ∈ lw_G := x_gw (inT_8 _ (List.mem_of_getElem? (i := 169) rfl)) rfl
theorem gw_2090 : (Cond.constant "RelayHall" 962 (5898261)) ∈ lw_G := x_gw (inT_8 _ (List.mem_of_getElem? (i := 170) rfl)) rfl
theorem gw_2091 : (Cond.methodLink "RelayHall" 557 ⟨"RelayHall", "rollBack", "(LRelayHall$Channel;)V"⟩) ∈ lw_G := x_gw (inT_8 _ (List.mem_of_getElem? (i := 171) rfl)) rfl
theorem gw_2093 : (Cond.instanceMethod ⟨"RelayHall", "rollBack", "(LRelayHall$Channel;)V"⟩) ∈ lw_G := x_gw (inT_8 _ (List.mem_of_getElem? (i := 173) rfl)) rfl
theorem gw_2094 : (Cond.code ⟨"RelayHall", "rollBack", "(LRelayHall$Channel;)V"⟩ prog_1_method_108_code 2 none) ∈ lw_G := x_gw (inT_8 _ (List.mem_of_getElem? (i := 174) rfl)) rfl
theorem gw_2095 : (Cond.methodLink "RelayHall" 963 ⟨"RelayHall$Channel", "forgetKept", "()V"⟩) ∈ lw_G := x_gw (inT_8 _ (List.mem_of_getElem? (i := 175) rfl)) rfl
theorem gw_2096 : (Cond.instanceMethod ⟨"RelayHall$Channel", "forgetKept", "()V"⟩) ∈ lw_G := x_gw (inT_8 _ (List.mem_of_getElem? (i := 176) rfl)) rfl
theorem gw_2097 : (Cond.selects "RelayHall$Channel" ⟨"RelayHall$Channel", "forgetKept", "()V"⟩ ⟨"RelayHall$Channel", "forgetKept", "()V"⟩) ∈ lw_G := x_gw (inT_8 _ (List.mem_of_getElem? (i := 177) rfl)) rfl
theorem gw_2098 : (Cond.code ⟨"RelayHall$Channel", "forgetKept", "()V"⟩ prog_3_method_5_code 2 none) ∈ lw_G := x_gw (inT_8 _ (List.mem_of_getElem? (i := 178) rfl)) rfl
theorem gw_2099 : (Cond.constant "RelayHall" 966 (5898271)) ∈ lw_G := x_gw (inT_8 _ (List.mem_of_getElem? (i := 179) rfl)) rfl
theorem gw_2100 : (Cond.methodLink "RelayHall" 139 ⟨"RelayHall", "takeHeader", "(LRelayHall$Channel;)V"⟩) ∈ lw_G := x_gw (inT_8 _ (List.mem_of_getElem? (i := 180) rfl)) rfl
theorem gw_2102 : (Cond.instanceMethod ⟨"RelayHall", "takeHeader", "(LRelayHall$Channel;)V"⟩) ∈ lw_G := x_gw (inT_8 _ (List.mem_of_getElem? (i := 182) rfl)) rfl
theorem gw_2103 : (Cond.code ⟨"RelayHall", "takeHeader", "(LRelayHall$Channel;)V"⟩ prog_1_method_78_code 7 none) ∈ lw_G := x_gw (inT_8 _ (List.mem_of_getElem? (i := 183) rfl)) rfl
theorem gw_2104 : (Cond.constantLong "RelayHall" 739 (200)) ∈ lw_G := x_gw (inT_8 _ (List.mem_of_getElem? (i := 184) rfl)) rfl
theorem gw_2105 : (Cond.constant "RelayHall" 741 (3932200)) ∈ lw_G := x_gw (inT_8 _ (List.mem_of_getElem? (i := 185) rfl)) rfl
theorem gw_2106 : (Cond.methodLink "RelayHall" 748 ⟨"RelayHall", "takeContent", "(LRelayHall$Channel;)V"⟩) ∈ lw_G := x_gw (inT_8 _ (List.mem_of_getElem? (i := 186) rfl)) rfl
theorem gw_2108 : (Cond.instanceMethod ⟨"RelayHall", "takeContent", "(LRelayHall$Channel;)V"⟩) ∈ lw_G := x_gw (inT_8 _ (List.mem_of_getElem? (i := 188) rfl)) rfl
theorem gw_2109 : (Cond.code ⟨"RelayHall", "takeContent", "(LRelayHall$Channel;)V"⟩ prog_1_method_80_code 5 none) ∈ lw_G := x_gw (inT_8 _ (List.mem_of_getElem? (i := 189) rfl)) rfl
theorem gw_2110 : (Cond.methodLink "RelayHall" 775 ⟨"RelayHall", "confirm", "(LRelayHall$Channel;Z)V"⟩) ∈ lw_G := x_gw (inT_8 _ (List.mem_of_getElem? (i := 190) rfl)) rfl
theorem gw_2112 : (Cond.instanceMethod ⟨"RelayHall", "confirm", "(LRelayHall$Channel;Z)V"⟩) ∈ lw_G := x_gw (inT_8 _ (List.mem_of_getElem? (i := 192) rfl)) rfl
theorem gw_2113 : (Cond.code ⟨"RelayHall", "confirm", "(LRelayHall$Channel;Z)V"⟩ prog_1_method_82_code 3 none) ∈ lw_G := x_gw (inT_8 _ (List.mem_of_getElem? (i := 193) rfl)) rfl
theorem gw_2114 : (Cond.methodLink "RelayHall" 797 ⟨"java/lang/Integer", "valueOf", "(I)Ljava/lang/Integer;"⟩) ∈ lw_G := x_gw (inT_8 _ (List.mem_of_getElem? (i := 194) rfl)) rfl
theorem gw_2115 : (Cond.static ⟨"java/lang/Integer", "valueOf", "(I)Ljava/lang/Integer;"⟩) ∈ lw_G := x_gw (inT_8 _ (List.mem_of_getElem? (i := 195) rfl)) rfl
theorem gw_2116 : (Cond.code ⟨"java/lang/Integer", "valueOf", "(I)Ljava/lang/Integer;"⟩ prog_35_method_22_code 1 (some (.object "java/lang/Integer"))) ∈ lw_G := x_gw (inT_8 _ (List.mem_of_getElem? (i := 196) rfl)) rfl
theorem gw_2117 : (Cond.fieldLink "java/lang/Integer" 191 "java/lang/Integer$IntegerCache" "high" "I") ∈ lw_G := x_gw (inT_8 _ (List.mem_of_getElem? (i := 197) rfl)) rfl
theorem gw_2121 : (Cond.classLink "java/lang/Integer" 1 "java/lang/Integer") ∈ lw_G := x_gw (inT_8 _ (List.mem_of_getElem? (i := 201) rfl)) rfl
theorem gw_2122 : (Cond.instantiable "java/lang/Integer" 1) ∈ lw_G := x_gw (inT_8 _ (List.mem_of_getElem? (i := 202) rfl)) rfl
theorem gw_2123 : (Cond.methodLink "java/lang/Integer" 199 ⟨"java/lang/Integer", "<init>", "(I)V"⟩) ∈ lw_G := x_gw (inT_8 _ (List.mem_of_getElem? (i := 203) rfl)) rfl
theorem gw_2124 : (Cond.instanceMethod ⟨"java/lang/Integer", "<init>", "(I)V"⟩) ∈ lw_G := x_gw (inT_8 _ (List.mem_of_getElem? (i := 204) rfl)) rfl
theorem gw_2125 : (Cond.code ⟨"java/lang/Integer", "<init>", "(I)V"⟩ prog_35_method_23_code 2 none) ∈ lw_G := x_gw (inT_8 _ (List.mem_of_getElem? (i := 205) rfl)) rfl
theorem gw_2126 : (Cond.methodLink "java/lang/Integer" 202 ⟨"java/lang/Number", "<init>", "()V"⟩) ∈ lw_G := x_gw (inT_8 _ (List.mem_of_getElem? (i := 206) rfl)) rfl
theorem gw_2127 : (Cond.instanceMethod ⟨"java/lang/Number", "<init>", "()V"⟩) ∈ lw_G := x_gw (inT_8 _ (List.mem_of_getElem? (i := 207) rfl)) rfl
theorem gw_2128 : (Cond.code ⟨"java/lang/Number", "<init>", "()V"⟩ prog_39_method_1_code 1 none) ∈ lw_G := x_gw (inT_8 _ (List.mem_of_getElem? (i := 208) rfl)) rfl
theorem gw_2129 : (Cond.methodLink "java/lang/Number" 1 ⟨"java/lang/Object", "<init>", "()V"⟩) ∈ lw_G := x_gw (inT_8 _ (List.mem_of_getElem? (i := 209) rfl)) rfl
theorem gw_2130 : (Cond.fieldLink "java/lang/Integer" 205 "java/lang/Integer" "value" "I") ∈ lw_G := x_gw (inT_8 _ (List.mem_of_getElem? (i := 210) rfl)) rfl
theorem gw_2134 : (Cond.methodLink "RelayHall" 803 ⟨"RelayHall", "sendConfirm", "(LRelayHall$Channel;I)V"⟩) ∈ lw_G := x_gw (inT_8 _ (List.mem_of_getElem? (i := 214) rfl)) rfl
theorem gw_2136 : (Cond.instanceMethod ⟨"RelayHall", "sendConfirm", "(LRelayHall$Channel;I)V"⟩) ∈ lw_G := x_gw (inT_8 _ (List.mem_of_getElem? (i := 216) rfl)) rfl
theorem gw_2137 : (Cond.code ⟨"RelayHall", "sendConfirm", "(LRelayHall$Channel;I)V"⟩ prog_1_method_83_code 4 none) ∈ lw_G := x_gw (inT_8 _ (List.mem_of_getElem? (i := 217) rfl)) rfl
theorem gw_2138 : (Cond.methodLink "RelayHall" 142 ⟨"RelayHall", "takeBody", "(LRelayHall$Channel;)V"⟩) ∈ lw_G := x_gw (inT_8 _ (List.mem_of_getElem? (i := 218) rfl)) rfl
theorem gw_2140 : (Cond.instanceMethod ⟨"RelayHall", "takeBody", "(LRelayHall$Channel;)V"⟩) ∈ lw_G := x_gw (inT_8 _ (List.mem_of_getElem? (i := 220) rfl)) rfl
theorem gw_2141 : (Cond.code ⟨"RelayHall", "takeBody", "(LRelayHall$Channel;)V"⟩ prog_1_method_79_code 4 none) ∈ lw_G := x_gw (inT_8 _ (List.mem_of_getElem? (i := 221) rfl)) rfl
theorem gw_2142 : (Cond.methodLink "RelayHall" 751 ⟨"RelayHall$Reader", "left", "()I"⟩) ∈ lw_G := x_gw (inT_8 _ (List.mem_of_getElem? (i := 222) rfl)) rfl
theorem gw_2143 : (Cond.instanceMethod ⟨"RelayHall$Reader", "left", "()I"⟩) ∈ lw_G := x_gw (inT_8 _ (List.mem_of_getElem? (i := 223) rfl)) rfl
theorem gw_2144 : (Cond.selects "RelayHall$Reader" ⟨"RelayHall$Reader", "left", "()I"⟩ ⟨"RelayHall$Reader", "left", "()I"⟩) ∈ lw_G := x_gw (inT_8 _ (List.mem_of_getElem? (i := 224) rfl)) rfl
theorem gw_2145 : (Cond.code ⟨"RelayHall$Reader", "left", "()I"⟩ prog_11_method_10_code 1 (some .int)) ∈ lw_G := x_gw (inT_8 _ (List.mem_of_getElem? (i := 225) rfl)) rfl
theorem gw_2147 : (Cond.methodLink "RelayHall" 148 ⟨"RelayHall", "dispatch", "()V"⟩) ∈ lw_G := x_gw (inT_8 _ (List.mem_of_getElem? (i := 227) rfl)) rfl
theorem gw_2149 : (Cond.instanceMethod ⟨"RelayHall", "dispatch", "()V"⟩) ∈ lw_G := x_gw (inT_8 _ (List.mem_of_getElem? (i := 229) rfl)) rfl
theorem gw_2150 : (Cond.code ⟨"RelayHall", "dispatch", "()V"⟩ prog_1_method_96_code 2 none) ∈ lw_G := x_gw (inT_8 _ (List.mem_of_getElem? (i := 230) rfl)) rfl
theorem gw_2151 : (Cond.constant "RelayHall" 892 (1000000)) ∈ lw_G := x_gw (inT_8 _ (List.mem_of_getElem? (i := 231) rfl)) rfl
theorem gw_2152 : (Cond.methodLink "RelayHall" 183 ⟨"RelayHall", "letLeave", "()V"⟩) ∈ lw_G := x_gw (inT_8 _ (List.mem_of_getElem? (i := 232) rfl)) rfl
theorem gw_2154 : (Cond.instanceMethod ⟨"RelayHall", "letLeave", "()V"⟩) ∈ lw_G := x_gw (inT_8 _ (List.mem_of_getElem? (i := 234) rfl)) rfl
theorem gw_2155 : (Cond.code ⟨"RelayHall", "letLeave", "()V"⟩ prog_1_method_38_code 3 none) ∈ lw_G := x_gw (inT_8 _ (List.mem_of_getElem? (i := 235) rfl)) rfl
theorem gw_2156 : (Cond.methodLink "RelayHall" 369 ⟨"RelayHall", "gone", "(LRelayHall$Channel;)V"⟩) ∈ lw_G := x_gw (inT_8 _ (List.mem_of_getElem? (i := 236) rfl)) rfl
theorem gw_2158 : (Cond.instanceMethod ⟨"RelayHall", "gone", "(LRelayHall$Channel;)V"⟩) ∈ lw_G := x_gw (inT_8 _ (List.mem_of_getElem? (i := 238) rfl)) rfl
theorem gw_2159 : (Cond.code ⟨"RelayHall", "gone", "(LRelayHall$Channel;)V"⟩ prog_1_method_40_code 4 none) ∈ lw_G := x_gw (inT_8 _ (List.mem_of_getElem? (i := 239) rfl)) rfl
theorem gw_2160 : (Cond.methodLink "RelayHall" 392 ⟨"RelayHall$Channel", "forget", "()V"⟩) ∈ lw_G := x_gw (inT_9 _ (List.mem_of_getElem? (i := 0) rfl)) rfl
theorem gw_2161 : (Cond.methodLink "RelayHall" 372 ⟨"RelayHall", "letLeaveWhole", "(LRelayHall$Connection;)V"⟩) ∈ lw_G := x_gw (inT_9 _ (List.mem_of_getElem? (i := 1) rfl)) rfl
theorem gw_2163 : (Cond.instanceMethod ⟨"RelayHall", "letLeaveWhole", "(LRelayHall$Connection;)V"⟩) ∈ lw_G := x_gw (inT_9 _ (List.mem_of_getElem? (i := 3) rfl)) rfl
theorem gw_2164 : (Cond.code ⟨"RelayHall", "letLeaveWhole", "(LRelayHall$Connection;)V"⟩ prog_1_method_39_code 5 none) ∈ lw_G := x_gw (inT_9 _ (List.mem_of_getElem? (i := 4) rfl)) rfl
theorem gw_2165 : (Cond.methodLink "RelayHall" 893 ⟨"RelayHall", "dispatchOne", "()Z"⟩) ∈ lw_G := x_gw (inT_9 _ (List.mem_of_getElem? (i := 5) rfl)) rfl
theorem gw_2167 : (Cond.instanceMethod ⟨"RelayHall", "dispatchOne", "()Z"⟩) ∈ lw_G := x_gw (inT_9 _ (List.mem_of_getElem? (i := 7) rfl)) rfl
theorem gw_2168 : (Cond.code ⟨"RelayHall", "dispatchOne", "()Z"⟩ prog_1_method_97_code 4 (some .boolean)) ∈ lw_G := x_gw (inT_9 _ (List.mem_of_getElem? (i := 8) rfl)) rfl
theorem gw_2169 : (Cond.methodLink "RelayHall" 896 ⟨"RelayHall$Message", "buried", "()LRelayHall$Message;"⟩) ∈ lw_G := x_gw (inT_9 _ (List.mem_of_getElem? (i := 9) rfl)) rfl
theorem gw_2170 : (Cond.instanceMethod ⟨"RelayHall$Message", "buried", "()LRelayHall$Message;"⟩) ∈ lw_G := x_gw (inT_9 _ (List.mem_of_getElem? (i := 10) rfl)) rfl
theorem gw_2171 : (Cond.selects "RelayHall$Message" ⟨"RelayHall$Message", "buried", "()LRelayHall$Message;"⟩ ⟨"RelayHall$Message", "buried", "()LRelayHall$Message;"⟩) ∈ lw_G := x_gw (inT_9 _ (List.mem_of_getElem? (i := 11) rfl)) rfl
theorem gw_2172 : (Cond.code ⟨"RelayHall$Message", "buried", "()LRelayHall$Message;"⟩ prog_9_method_4_code 2 (some (.object "RelayHall$Message"))) ∈ lw_G := x_gw (inT_9 _ (List.mem_of_getElem? (i := 12) rfl)) rfl
theorem gw_2173 : (Cond.methodLink "RelayHall" 900 ⟨"RelayHall", "nextConsumer", "(LRelayHall$Queue;)LRelayHall$Consumer;"⟩) ∈ lw_G := x_gw (inT_9 _ (List.mem_of_getElem? (i := 13) rfl)) rfl
theorem gw_2175 : (Cond.instanceMethod ⟨"RelayHall", "nextConsumer", "(LRelayHall$Queue;)LRelayHall$Consumer;"⟩) ∈ lw_G := x_gw (inT_9 _ (List.mem_of_getElem? (i := 15) rfl)) rfl
theorem gw_2176 : (Cond.code ⟨"RelayHall", "nextConsumer", "(LRelayHall$Queue;)LRelayHall$Consumer;"⟩ prog_1_method_98_code 6 (some (.object "RelayHall$Consumer"))) ∈ lw_G := x_gw (inT_9 _ (List.mem_of_getElem? (i := 16) rfl)) rfl
theorem gw_2177 : (Cond.methodLink "RelayHall" 912 ⟨"RelayHall$Consumer", "hasCredit", "()Z"⟩) ∈ lw_G := x_gw (inT_9 _ (List.mem_of_getElem? (i := 17) rfl)) rfl
theorem gw_2178 : (Cond.instanceMethod ⟨"RelayHall$Consumer", "hasCredit", "()Z"⟩) ∈ lw_G := x_gw (inT_9 _ (List.mem_of_getElem? (i := 18) rfl)) rfl
theorem gw_2179 : (Cond.selects "RelayHall$Consumer" ⟨"RelayHall$Consumer", "hasCredit", "()Z"⟩ ⟨"RelayHall$Consumer", "hasCredit", "()Z"⟩) ∈ lw_G := x_gw (inT_9 _ (List.mem_of_getElem? (i := 19) rfl)) rfl
theorem gw_2180 : (Cond.code ⟨"RelayHall$Consumer", "hasCredit", "()Z"⟩ prog_5_method_2_code 2 (some .boolean)) ∈ lw_G := x_gw (inT_9 _ (List.mem_of_getElem? (i := 20) rfl)) rfl
theorem gw_2181 : (Cond.methodLink "RelayHall" 904 ⟨"RelayHall", "deliver", "(LRelayHall$Queue;LRelayHall$Consumer;)V"⟩) ∈ lw_G := x_gw (inT_9 _ (List.mem_of_getElem? (i := 21) rfl)) rfl
theorem gw_2183 : (Cond.instanceMethod ⟨"RelayHall", "deliver", "(LRelayHall$Queue;LRelayHall$Consumer;)V"⟩) ∈ lw_G := x_gw (inT_9 _ (List.mem_of_getElem? (i := 23) rfl)) rfl
theorem gw_2184 : (Cond.code ⟨"RelayHall", "deliver", "(LRelayHall$Queue;LRelayHall$Consumer;)V"⟩ prog_1_method_99_code 6 none) ∈ lw_G := x_gw (inT_9 _ (List.mem_of_getElem? (i := 24) rfl)) rfl
theorem gw_2185 : (Cond.constant "RelayHall" 922 (3932220)) ∈ lw_G := x_gw (inT_9 _ (List.mem_of_getElem? (i := 25) rfl)) rfl
theorem gw_2186 : (Cond.methodLink "RelayHallLaw" 46 ⟨"RelayHall", "cut", "(I)Z"⟩) ∈ lw_G := x_gw (inT_9 _ (List.mem_of_getElem? (i := 26) rfl)) rfl
theorem gw_2187 : (Cond.instanceMethod ⟨"RelayHall", "cut", "(I)Z"⟩) ∈ lw_G := x_gw (inT_9 _ (List.mem_of_getElem? (i := 27) rfl)) rfl
theorem gw_2188 : (Cond.selects "RelayHall" ⟨"RelayHall", "cut", "(I)Z"⟩ ⟨"RelayHall", "cut", "(I)Z"⟩) ∈ lw_G := x_gw (inT_9 _ (List.mem_of_getElem? (i := 28) rfl)) rfl
theorem gw_2189 : (Cond.code ⟨"RelayHall", "cut", "(I)Z"⟩ prog_1_method_5_code 2 (some .boolean)) ∈ lw_G := x_gw (inT_9 _ (List.mem_of_getElem? (i := 29) rfl)) rfl
theorem gw_2190 : (Cond.methodLink "RelayHallLaw" 50 ⟨"RelayHall", "waiting", "(I)I"⟩) ∈ lw_G := x_gw (inT_9 _ (List.mem_of_getElem? (i := 30) rfl)) rfl
theorem gw_2191 : (Cond.instanceMethod ⟨"RelayHall", "waiting", "(I)I"⟩) ∈ lw_G := x_gw (inT_9 _ (List.mem_of_getElem? (i := 31) rfl)) rfl
theorem gw_2192 : (Cond.selects "RelayHall" ⟨"RelayHall", "waiting", "(I)I"⟩ ⟨"RelayHall", "waiting", "(I)I"⟩) ∈ lw_G := x_gw (inT_9 _ (List.mem_of_getElem? (i := 32) rfl)) rfl
theorem gw_2193 : (Cond.code ⟨"RelayHall", "waiting", "(I)I"⟩ prog_1_method_6_code 2 (some .int)) ∈ lw_G := x_gw (inT_9 _ (List.mem_of_getElem? (i := 33) rfl)) rfl
theorem gw_2194 : (Cond.methodLink "RelayHallLaw" 71 ⟨"RelayHall", "connection", "(II)I"⟩) ∈ lw_G := x_gw (inT_9 _ (List.mem_of_getElem? (i := 34) rfl)) rfl
theorem gw_2195 : (Cond.instanceMethod ⟨"RelayHall", "connection", "(II)I"⟩) ∈ lw_G := x_gw (inT_9 _ (List.mem_of_getElem? (i := 35) rfl)) rfl
theorem gw_2196 : (Cond.selects "RelayHall" ⟨"RelayHall", "connection", "(II)I"⟩ ⟨"RelayHall", "connection", "(II)I"⟩) ∈ lw_G := x_gw (inT_9 _ (List.mem_of_getElem? (i := 36) rfl)) rfl
theorem gw_2197 : (Cond.code ⟨"RelayHall", "connection", "(II)I"⟩ prog_1_method_10_code 4 (some .int)) ∈ lw_G := x_gw (inT_9 _ (List.mem_of_getElem? (i := 37) rfl)) rfl
theorem gw_2198 : (Cond.methodLink "RelayHall" 204 ⟨"RelayHall$Connection", "openChannels", "()I"⟩) ∈ lw_G := x_gw (inT_9 _ (List.mem_of_getElem? (i := 38) rfl)) rfl
theorem gw_2199 : (Cond.instanceMethod ⟨"RelayHall$Connection", "openChannels", "()I"⟩) ∈ lw_G := x_gw (inT_9 _ (List.mem_of_getElem? (i := 39) rfl)) rfl
theorem gw_2200 : (Cond.selects "RelayHall$Connection" ⟨"RelayHall$Connection", "openChannels", "()I"⟩ ⟨"RelayHall$Connection", "openChannels", "()I"⟩) ∈ lw_G := x_gw (inT_9 _ (List.mem_of_getElem? (i := 40) rfl)) rfl
theorem gw_2201 : (Cond.code ⟨"RelayHall$Connection", "openChannels", "()I"⟩ prog_4_method_4_code 3 (some .int)) ∈ lw_G := x_gw (inT_9 _ (List.mem_of_getElem? (i := 41) rfl)) rfl
theorem gw_2202 : (Cond.methodLink "RelayHallLaw" 76 ⟨"RelayHall", "channel", "(III)I"⟩) ∈ lw_G := x_gw (inT_9 _ (List.mem_of_getElem? (i := 42) rfl)) rfl
theorem gw_2203 : (Cond.instanceMethod ⟨"RelayHall", "channel", "(III)I"⟩) ∈ lw_G := x_gw (inT_9 _ (List.mem_of_getElem? (i := 43) rfl)) rfl
theorem gw_2204 : (Cond.selects "RelayHall" ⟨"RelayHall", "channel", "(III)I"⟩ ⟨"RelayHall", "channel", "(III)I"⟩) ∈ lw_G := x_gw (inT_9 _ (List.mem_of_getElem? (i := 44) rfl)) rfl
theorem gw_2205 : (Cond.code ⟨"RelayHall", "channel", "(III)I"⟩ prog_1_method_11_code 5 (some .int)) ∈ lw_G := x_gw (inT_9 _ (List.mem_of_getElem? (i := 45) rfl)) rfl
theorem gw_2206 : (Cond.methodLink "RelayHall" 223 ⟨"RelayHall", "consumersOn", "(LRelayHall$Channel;)I"⟩) ∈ lw_G := x_gw (inT_9 _ (List.mem_of_getElem? (i := 46) rfl)) rfl
theorem gw_2208 : (Cond.instanceMethod ⟨"RelayHall", "consumersOn", "(LRelayHall$Channel;)I"⟩) ∈ lw_G := x_gw (inT_9 _ (List.mem_of_getElem? (i := 48) rfl)) rfl
theorem gw_2209 : (Cond.code ⟨"RelayHall", "consumersOn", "(LRelayHall$Channel;)I"⟩ prog_1_method_24_code 4 (some .int)) ∈ lw_G := x_gw (inT_9 _ (List.mem_of_getElem? (i := 49) rfl)) rfl
theorem gw_2210 : (Cond.methodLink "RelayHallLaw" 81 ⟨"RelayHall", "queue", "(II)I"⟩) ∈ lw_G := x_gw (inT_9 _ (List.mem_of_getElem? (i := 50) rfl)) rfl
theorem gw_2211 : (Cond.instanceMethod ⟨"RelayHall", "queue", "(II)I"⟩) ∈ lw_G := x_gw (inT_9 _ (List.mem_of_getElem? (i := 51) rfl)) rfl
theorem gw_2212 : (Cond.selects "RelayHall" ⟨"RelayHall", "queue", "(II)I"⟩ ⟨"RelayHall", "queue", "(II)I"⟩) ∈ lw_G := x_gw (inT_9 _ (List.mem_of_getElem? (i := 52) rfl)) rfl
theorem gw_2213 : (Cond.code ⟨"RelayHall", "queue", "(II)I"⟩ prog_1_method_12_code 4 (some .int)) ∈ lw_G := x_gw (inT_9 _ (List.mem_of_getElem? (i := 53) rfl)) rfl
theorem gw_2214 : (Cond.methodLink "RelayHall" 254 ⟨"RelayHall", "bindingsTo", "(LRelayHall$Queue;)I"⟩) ∈ lw_G := x_gw (inT_9 _ (List.mem_of_getElem? (i := 54) rfl)) rfl
theorem gw_2216 : (Cond.instanceMethod ⟨"RelayHall", "bindingsTo", "(LRelayHall$Queue;)I"⟩) ∈ lw_G := x_gw (inT_9 _ (List.mem_of_getElem? (i := 56) rfl)) rfl
theorem gw_2217 : (Cond.code ⟨"RelayHall", "bindingsTo", "(LRelayHall$Queue;)I"⟩ prog_1_method_26_code 4 (some .int)) ∈ lw_G := x_gw (inT_9 _ (List.mem_of_getElem? (i := 57) rfl)) rfl
theorem gw_2218 : (Cond.methodLink "RelayHall" 257 ⟨"RelayHall", "byteOf", "(Ljava/lang/String;I)I"⟩) ∈ lw_G := x_gw (inT_9 _ (List.mem_of_getElem? (i := 58) rfl)) rfl
theorem gw_2219 : (Cond.static ⟨"RelayHall", "byteOf", "(Ljava/lang/String;I)I"⟩) ∈ lw_G := x_gw (inT_9 _ (List.mem_of_getElem? (i := 59) rfl)) rfl
theorem gw_2220 : (Cond.code ⟨"RelayHall", "byteOf", "(Ljava/lang/String;I)I"⟩ prog_1_method_16_code 2 (some .int)) ∈ lw_G := x_gw (inT_9 _ (List.mem_of_getElem? (i := 60) rfl)) rfl
theorem gw_2221 : (Cond.methodLink "RelayHall" 270 ⟨"java/lang/String", "charAt", "(I)C"⟩) ∈ lw_G := x_gw (inT_9 _ (List.mem_of_getElem? (i := 61) rfl)) rfl
theorem gw_2222 : (Cond.methodLink "RelayHallLaw" 85 ⟨"RelayHall", "exchange", "(II)I"⟩) ∈ lw_G := x_gw (inT_9 _ (List.mem_of_getElem? (i := 62) rfl)) rfl
theorem gw_2223 : (Cond.instanceMethod ⟨"RelayHall", "exchange", "(II)I"⟩) ∈ lw_G := x_gw (inT_9 _ (List.mem_of_getElem? (i := 63) rfl)) rfl
theorem gw_2224 : (Cond.selects "RelayHall" ⟨"RelayHall", "exchange", "(II)I"⟩ ⟨"RelayHall", "exchange", "(II)I"⟩) ∈ lw_G := x_gw (inT_9 _ (List.mem_of_getElem? (i := 64) rfl)) rfl
theorem gw_2225 : (Cond.code ⟨"RelayHall", "exchange", "(II)I"⟩ prog_1_method_13_code 4 (some .int)) ∈ lw_G := x_gw (inT_9 _ (List.mem_of_getElem? (i := 65) rfl)) rfl
theorem gw_2226 : (Cond.methodLink "RelayHallLaw" 89 ⟨"RelayHall", "total", "(I)I"⟩) ∈ lw_G := x_gw (inT_9 _ (List.mem_of_getElem? (i := 66) rfl)) rfl
theorem gw_2227 : (Cond.instanceMethod ⟨"RelayHall", "total", "(I)I"⟩) ∈ lw_G := x_gw (inT_9 _ (List.mem_of_getElem? (i := 67) rfl)) rfl
theorem gw_2228 : (Cond.selects "RelayHall" ⟨"RelayHall", "total", "(I)I"⟩ ⟨"RelayHall", "total", "(I)I"⟩) ∈ lw_G := x_gw (inT_9 _ (List.mem_of_getElem? (i := 68) rfl)) rfl
theorem gw_2229 : (Cond.code ⟨"RelayHall", "total", "(I)I"⟩ prog_1_method_14_code 2 (some .int)) ∈ lw_G := x_gw (inT_9 _ (List.mem_of_getElem? (i := 69) rfl)) rfl
theorem gw_2235 : (Cond.methodLink "RelayHallLaw" 7 ⟨"RelayHall", "read", "(II)J"⟩) ∈ lw_G := x_gw (inT_9 _ (List.mem_of_getElem? (i := 75) rfl)) rfl
theorem gw_2236 : (Cond.instanceMethod ⟨"RelayHall", "read", "(II)J"⟩) ∈ lw_G := x_gw (inT_9 _ (List.mem_of_getElem? (i := 76) rfl)) rfl
theorem gw_2237 : (Cond.selects "RelayHall" ⟨"RelayHall", "read", "(II)J"⟩ ⟨"RelayHall", "read", "(II)J"⟩) ∈ lw_G := x_gw (inT_9 _ (List.mem_of_getElem? (i := 77) rfl)) rfl
theorem gw_2238 : (Cond.code ⟨"RelayHall", "read", "(II)J"⟩ prog_1_method_7_code 6 (some .long)) ∈ lw_G := x_gw (inT_9 _ (List.mem_of_getElem? (i := 78) rfl)) rfl
theorem gw_2239 : (Cond.classLink "RelayHall" 158 "java/lang/IndexOutOfBoundsException") ∈ lw_G := x_gw (inT_9 _ (List.mem_of_getElem? (i := 79) rfl)) rfl
theorem gw_2240 : (Cond.methodLink "RelayHall" 160 ⟨"java/lang/IndexOutOfBoundsException", "<init>", "()V"⟩) ∈ lw_G := x_gw (inT_9 _ (List.mem_of_getElem? (i := 80) rfl)) rfl
theorem gw_2241 : (Cond.instanceMethod ⟨"java/lang/IndexOutOfBoundsException", "<init>", "()V"⟩) ∈ lw_G := x_gw (inT_9 _ (List.mem_of_getElem? (i := 81) rfl)) rfl
theorem gw_2242 : (Cond.code ⟨"java/lang/IndexOutOfBoundsException", "<init>", "()V"⟩ prog_34_method_1_code 1 none) ∈ lw_G := x_gw (inT_9 _ (List.mem_of_getElem? (i := 82) rfl)) rfl
theorem gw_2250 : (Cond.classLink "RelayHall" 161 "java/util/NoSuchElementException") ∈ lw_G := x_gw (inT_9 _ (List.mem_of_getElem? (i := 90) rfl)) rfl
theorem gw_2251 : (Cond.instantiable "java/util/NoSuchElementException" 6) ∈ lw_G := x_gw (inT_9 _ (List.mem_of_getElem? (i := 91) rfl)) rfl
theorem gw_2259 : (Cond.methodLink "RelayHall" 163 ⟨"java/util/NoSuchElementException", "<init>", "()V"⟩) ∈ lw_G := x_gw (inT_9 _ (List.mem_of_getElem? (i := 99) rfl)) rfl
theorem gw_2260 : (Cond.instanceMethod ⟨"java/util/NoSuchElementException", "<init>", "()V"⟩) ∈ lw_G := x_gw (inT_9 _ (List.mem_of_getElem? (i := 100) rfl)) rfl
theorem gw_2261 : (Cond.code ⟨"java/util/NoSuchElementException", "<init>", "()V"⟩ prog_54_method_1_code 1 none) ∈ lw_G := x_gw (inT_9 _ (List.mem_of_getElem? (i := 101) rfl)) rfl
theorem gw_2265 : (Cond.methodLink "RelayHall" 164 ⟨"RelayHall$Connection", "pull", "()I"⟩) ∈ lw_G := x_gw (inT_9 _ (List.mem_of_getElem? (i := 105) rfl)) rfl
theorem gw_2266 : (Cond.instanceMethod ⟨"RelayHall$Connection", "pull", "()I"⟩) ∈ lw_G := x_gw (inT_9 _ (List.mem_of_getElem? (i := 106) rfl)) rfl
theorem gw_2267 : (Cond.selects "RelayHall$Connection" ⟨"RelayHall$Connection", "pull", "()I"⟩ ⟨"RelayHall$Connection", "pull", "()I"⟩) ∈ lw_G := x_gw (inT_9 _ (List.mem_of_getElem? (i := 107) rfl)) rfl
theorem gw_2268 : (Cond.code ⟨"RelayHall$Connection", "pull", "()I"⟩ prog_4_method_20_code 2 (some .int)) ∈ lw_G := x_gw (inT_9 _ (List.mem_of_getElem? (i := 108) rfl)) rfl
theorem gw_2273 : (Cond.methodLink "RelayHallLaw" 17 ⟨"RelayHall", "tick", "(I)I"⟩) ∈ lw_G := x_gw (inT_9 _ (List.mem_of_getElem? (i := 113) rfl)) rfl
theorem gw_2274 : (Cond.instanceMethod ⟨"RelayHall", "tick", "(I)I"⟩) ∈ lw_G := x_gw (inT_9 _ (List.mem_of_getElem? (i := 114) rfl)) rfl
theorem gw_2275 : (Cond.selects "RelayHall" ⟨"RelayHall", "tick", "(I)I"⟩ ⟨"RelayHall", "tick", "(I)I"⟩) ∈ lw_G := x_gw (inT_9 _ (List.mem_of_getElem? (i := 115) rfl)) rfl
theorem gw_2276 : (Cond.code ⟨"RelayHall", "tick", "(I)I"⟩ prog_1_method_8_code 4 (some .int)) ∈ lw_G := x_gw (inT_9 _ (List.mem_of_getElem? (i := 116) rfl)) rfl
theorem gw_2277 : (Cond.classLink "RelayHall" 168 "java/lang/IllegalArgumentException") ∈ lw_G := x_gw (inT_9 _ (List.mem_of_getElem? (i := 117) rfl)) rfl
theorem gw_2278 : (Cond.methodLink "RelayHall" 170 ⟨"java/lang/IllegalArgumentException", "<init>", "()V"⟩) ∈ lw_G := x_gw (inT_9 _ (List.mem_of_getElem? (i := 118) rfl)) rfl
theorem gw_2279 : (Cond.instanceMethod ⟨"java/lang/IllegalArgumentException", "<init>", "()V"⟩) ∈ lw_G := x_gw (inT_9 _ (List.mem_of_getElem? (i := 119) rfl)) rfl
theorem gw_2280 : (Cond.code ⟨"java/lang/IllegalArgumentException", "<init>", "()V"⟩ prog_33_method_1_code 1 none) ∈ lw_G := x_gw (inT_9 _ (List.mem_of_getElem? (i := 120) rfl)) rfl
theorem gw_2282 : (Cond.methodLink "RelayHall" 177 ⟨"RelayHall$Log", "makeSafe", "(I)V"⟩) ∈ lw_G := x_gw (inT_9 _ (List.mem_of_getElem? (i := 122) rfl)) rfl
theorem gw_2283 : (Cond.instanceMethod ⟨"RelayHall$Log", "makeSafe", "(I)V"⟩) ∈ lw_G := x_gw (inT_9 _ (List.mem_of_getElem? (i := 123) rfl)) rfl
theorem gw_2284 : (Cond.selects "RelayHall$Log" ⟨"RelayHall$Log", "makeSafe", "(I)V"⟩ ⟨"RelayHall$Log", "makeSafe", "(I)V"⟩) ∈ lw_G := x_gw (inT_9 _ (List.mem_of_getElem? (i := 124) rfl)) rfl
theorem gw_2285 : (Cond.code ⟨"RelayHall$Log", "makeSafe", "(I)V"⟩ prog_8_method_2_code 4 none) ∈ lw_G := x_gw (inT_9 _ (List.mem_of_getElem? (i := 125) rfl)) rfl
theorem gw_2286 : (Cond.methodLink "RelayHall$Log" 19 ⟨"java/util/ArrayList", "size", "()I"⟩) ∈ lw_G := x_gw (inT_9 _ (List.mem_of_getElem? (i := 126) rfl)) rfl
theorem gw_2287 : (Cond.methodLink "RelayHall$Log" 23 ⟨"java/util/ArrayList", "get", "(I)Ljava/lang/Object;"⟩) ∈ lw_G := x_gw (inT_9 _ (List.mem_of_getElem? (i := 127) rfl)) rfl
theorem gw_2288 : (Cond.classLink "RelayHall$Log" 27 "RelayHall$Durable") ∈ lw_G := x_gw (inT_9 _ (List.mem_of_getElem? (i := 128) rfl)) rfl
theorem gw_2289 : (Cond.methodLink "RelayHall$Log" 33 ⟨"RelayHall$Log", "remove", "(LRelayHall$Durable;)V"⟩) ∈ lw_G := x_gw (inT_9 _ (List.mem_of_getElem? (i := 129) rfl)) rfl
theorem gw_2291 : (Cond.instanceMethod ⟨"RelayHall$Log", "remove", "(LRelayHall$Durable;)V"⟩) ∈ lw_G := x_gw (inT_9 _ (List.mem_of_getElem? (i := 131) rfl)) rfl
theorem gw_2292 : (Cond.code ⟨"RelayHall$Log", "remove", "(LRelayHall$Durable;)V"⟩ prog_8_method_3_code 4 none) ∈ lw_G := x_gw (inT_9 _ (List.mem_of_getElem? (i := 132) rfl)) rfl
theorem gw_2293 : (Cond.methodLink "RelayHall$Log" 44 ⟨"RelayHall$Durable", "goesWith", "(LRelayHall$Durable;)Z"⟩) ∈ lw_G := x_gw (inT_9 _ (List.mem_of_getElem? (i := 133) rfl)) rfl
theorem gw_2294 : (Cond.instanceMethod ⟨"RelayHall$Durable", "goesWith", "(LRelayHall$Durable;)Z"⟩) ∈ lw_G := x_gw (inT_9 _ (List.mem_of_getElem? (i := 134) rfl)) rfl
theorem gw_2295 : (Cond.sameMethod "RelayHall$Durable" "RelayHall$Durable" "goesWith" "(LRelayHall$Durable;)Z") ∈ lw_G := x_gw (inT_9 _ (List.mem_of_getElem? (i := 135) rfl)) rfl
theorem gw_2296 : (Cond.selects "RelayHall$Binding" ⟨"RelayHall$Durable", "goesWith", "(LRelayHall$Durable;)Z"⟩ ⟨"RelayHall$Binding", "goesWith", "(LRelayHall$Durable;)Z"⟩) ∈ lw_G := x_gw (inT_9 _ (List.mem_of_getElem? (i := 136) rfl)) rfl
theorem gw_2297 : (Cond.instanceMethod ⟨"RelayHall$Binding", "goesWith", "(LRelayHall$Durable;)Z"⟩) ∈ lw_G := x_gw (inT_9 _ (List.mem_of_getElem? (i := 137) rfl)) rfl
theorem gw_2298 : (Cond.code ⟨"RelayHall$Binding", "goesWith", "(LRelayHall$Durable;)Z"⟩ prog_2_method_2_code 2 (some .boolean)) ∈ lw_G := x_gw (inT_9 _ (List.mem_of_getElem? (i := 138) rfl)) rfl
theorem gw_2299 : (Cond.selects "RelayHall$Exchange" ⟨"RelayHall$Durable", "goesWith", "(LRelayHall$Durable;)Z"⟩ ⟨"RelayHall$Durable", "goesWith", "(LRelayHall$Durable;)Z"⟩) ∈ lw_G := x_gw (inT_9 _ (List.mem_of_getElem? (i := 139) rfl)) rfl
theorem gw_2300 : (Cond.selects "RelayHall$Message" ⟨"RelayHall$Durable", "goesWith", "(LRelayHall$Durable;)Z"⟩ ⟨"RelayHall$Message", "goesWith", "(LRelayHall$Durable;)Z"⟩) ∈ lw_G := x_gw (inT_9 _ (List.mem_of_getElem? (i := 140) rfl)) rfl
theorem gw_2301 : (Cond.instanceMethod ⟨"RelayHall$Message", "goesWith", "(LRelayHall$Durable;)Z"⟩) ∈ lw_G := x_gw (inT_9 _ (List.mem_of_getElem? (i := 141) rfl)) rfl
theorem gw_2302 : (Cond.code ⟨"RelayHall$Message", "goesWith", "(LRelayHall$Durable;)Z"⟩ prog_9_method_5_code 2 (some .boolean)) ∈ lw_G := x_gw (inT_9 _ (List.mem_of_getElem? (i := 142) rfl)) rfl
theorem gw_2303 : (Cond.selects "RelayHall$Queue" ⟨"RelayHall$Durable", "goesWith", "(LRelayHall$Durable;)Z"⟩ ⟨"RelayHall$Durable", "goesWith", "(LRelayHall$Durable;)Z"⟩) ∈ lw_G := x_gw (inT_9 _ (List.mem_of_getElem? (i := 143) rfl)) rfl
theorem gw_2304 : (Cond.code ⟨"RelayHall$Durable", "goesWith", "(LRelayHall$Durable;)Z"⟩ prog_6_method_2_code 2 (some .boolean)) ∈ lw_G := x_gw (inT_9 _ (List.mem_of_getElem? (i := 144) rfl)) rfl
theorem gw_2305 : (Cond.methodLink "RelayHall$Log" 48 ⟨"java/util/ArrayList", "remove", "(I)Ljava/lang/Object;"⟩) ∈ lw_G := x_gw (inT_9 _ (List.mem_of_getElem? (i := 145) rfl)) rfl
theorem gw_2306 : (Cond.methodLink "RelayHall$Log" 37 ⟨"java/util/ArrayList", "add", "(Ljava/lang/Object;)Z"⟩) ∈ lw_G := x_gw (inT_9 _ (List.mem_of_getElem? (i := 146) rfl)) rfl
theorem gw_2307 : (Cond.methodLink "RelayHall$Log" 41 ⟨"java/util/ArrayList", "clear", "()V"⟩) ∈ lw_G := x_gw (inT_9 _ (List.mem_of_getElem? (i := 147) rfl)) rfl
theorem gw_2308 : (Cond.methodLink "RelayHall" 180 ⟨"RelayHall", "sendConfirmsDue", "()V"⟩) ∈ lw_G := x_gw (inT_9 _ (List.mem_of_getElem? (i := 148) rfl)) rfl
theorem gw_2310 : (Cond.instanceMethod ⟨"RelayHall", "sendConfirmsDue", "()V"⟩) ∈ lw_G := x_gw (inT_9 _ (List.mem_of_getElem? (i := 150) rfl)) rfl
theorem gw_2311 : (Cond.code ⟨"RelayHall", "sendConfirmsDue", "()V"⟩ prog_1_method_110_code 5 none) ∈ lw_G := x_gw (inT_9 _ (List.mem_of_getElem? (i := 151) rfl)) rfl
theorem gw_2312 : (Cond.classLink "RelayHall" 798 "java/lang/Integer") ∈ lw_G := x_gw (inT_9 _ (List.mem_of_getElem? (i := 152) rfl)) rfl
theorem gw_2313 : (Cond.methodLink "RelayHall" 968 ⟨"java/lang/Integer", "intValue", "()I"⟩) ∈ lw_G := x_gw (inT_9 _ (List.mem_of_getElem? (i := 153) rfl)) rfl
theorem gw_2314 : (Cond.instanceMethod ⟨"java/lang/Integer", "intValue", "()I"⟩) ∈ lw_G := x_gw (inT_9 _ (List.mem_of_getElem? (i := 154) rfl)) rfl
theorem gw_2315 : (Cond.selects "java/lang/Integer" ⟨"java/lang/Integer", "intValue", "()I"⟩ ⟨"java/lang/Integer", "intValue", "()I"⟩) ∈ lw_G := x_gw (inT_9 _ (List.mem_of_getElem? (i := 155) rfl)) rfl
theorem gw_2316 : (Cond.code ⟨"java/lang/Integer", "intValue", "()I"⟩ prog_35_method_27_code 1 (some .int)) ∈ lw_G := x_gw (inT_9 _ (List.mem_of_getElem? (i := 156) rfl)) rfl
theorem gw_2317 : (Cond.methodLink "RelayHall" 186 ⟨"RelayHall", "expire", "()V"⟩) ∈ lw_G := x_gw (inT_9 _ (List.mem_of_getElem? (i := 157) rfl)) rfl
theorem gw_2319 : (Cond.instanceMethod ⟨"RelayHall", "expire", "()V"⟩) ∈ lw_G := x_gw (inT_9 _ (List.mem_of_getElem? (i := 159) rfl)) rfl
theorem gw_2320 : (Cond.code ⟨"RelayHall", "expire", "()V"⟩ prog_1_method_90_code 5 none) ∈ lw_G := x_gw (inT_9 _ (List.mem_of_getElem? (i := 160) rfl)) rfl
theorem gw_2321 : (Cond.methodLink "RelayHall" 858 ⟨"RelayHall$Message", "isExpired", "(I)Z"⟩) ∈ lw_G := x_gw (inT_9 _ (List.mem_of_getElem? (i := 161) rfl)) rfl
theorem gw_2322 : (Cond.instanceMethod ⟨"RelayHall$Message", "isExpired", "(I)Z"⟩) ∈ lw_G := x_gw (inT_9 _ (List.mem_of_getElem? (i := 162) rfl)) rfl
theorem gw_2323 : (Cond.selects "RelayHall$Message" ⟨"RelayHall$Message", "isExpired", "(I)Z"⟩ ⟨"RelayHall$Message", "isExpired", "(I)Z"⟩) ∈ lw_G := x_gw (inT_9 _ (List.mem_of_getElem? (i := 163) rfl)) rfl
theorem gw_2324 : (Cond.code ⟨"RelayHall$Message", "isExpired", "(I)Z"⟩ prog_9_method_7_code 3 (some .boolean)) ∈ lw_G := x_gw (inT_9 _ (List.mem_of_getElem? (i := 164) rfl)) rfl
theorem gw_2325 : (Cond.methodLink "RelayHall" 189 ⟨"RelayHall", "watch", "(LRelayHall$Connection;)V"⟩) ∈ lw_G := x_gw (inT_9 _ (List.mem_of_getElem? (i := 165) rfl)) rfl
theorem gw_2327 : (Cond.instanceMethod ⟨"RelayHall", "watch", "(LRelayHall$Connection;)V"⟩) ∈ lw_G := x_gw (inT_9 _ (List.mem_of_getElem? (i := 167) rfl)) rfl
theorem gw_2328 : (Cond.code ⟨"RelayHall", "watch", "(LRelayHall$Connection;)V"⟩ prog_1_method_111_code 2 none) ∈ lw_G := x_gw (inT_9 _ (List.mem_of_getElem? (i := 168) rfl)) rfl
theorem gw_2332 : (Cond.methodLink "RelayHallLaw" 23 ⟨"RelayHall", "crash", "(I)I"⟩) ∈ lw_G := x_gw (inT_9 _ (List.mem_of_getElem? (i := 172) rfl)) rfl
theorem gw_2333 : (Cond.instanceMethod ⟨"RelayHall", "crash", "(I)I"⟩) ∈ lw_G := x_gw (inT_9 _ (List.mem_of_getElem? (i := 173) rfl)) rfl
theorem gw_2334 : (Cond.selects "RelayHall" ⟨"RelayHall", "crash", "(I)I"⟩ ⟨"RelayHall", "crash", "(I)I"⟩) ∈ lw_G := x_gw (inT_9 _ (List.mem_of_getElem? (i := 174) rfl)) rfl
theorem gw_2335 : (Cond.code ⟨"RelayHall", "crash", "(I)I"⟩ prog_1_method_9_code 3 (some .int)) ∈ lw_G := x_gw (inT_9 _ (List.mem_of_getElem? (i := 175) rfl)) rfl
theorem gw_2336 : (Cond.methodLink "RelayHall" 192 ⟨"RelayHall$Connection", "drop", "()V"⟩) ∈ lw_G := x_gw (inT_9 _ (List.mem_of_getElem? (i := 176) rfl)) rfl
theorem gw_2337 : (Cond.instanceMethod ⟨"RelayHall$Connection", "drop", "()V"⟩) ∈ lw_G := x_gw (inT_9 _ (List.mem_of_getElem? (i := 177) rfl)) rfl
theorem gw_2338 : (Cond.selects "RelayHall$Connection" ⟨"RelayHall$Connection", "drop", "()V"⟩ ⟨"RelayHall$Connection", "drop", "()V"⟩) ∈ lw_G := x_gw (inT_9 _ (List.mem_of_getElem? (i := 178) rfl)) rfl
theorem gw_2339 : (Cond.code ⟨"RelayHall$Connection", "drop", "()V"⟩ prog_4_method_3_code 2 none) ∈ lw_G := x_gw (inT_9 _ (List.mem_of_getElem? (i := 179) rfl)) rfl
theorem gw_2340 : (Cond.methodLink "RelayHall$Connection" 60 ⟨"RelayHall$Channel", "forget", "()V"⟩) ∈ lw_G := x_gw (inT_9 _ (List.mem_of_getElem? (i := 180) rfl)) rfl
theorem gw_2341 : (Cond.methodLink "RelayHall" 195 ⟨"RelayHall", "forgetAll", "()V"⟩) ∈ lw_G := x_gw (inT_9 _ (List.mem_of_getElem? (i := 181) rfl)) rfl
theorem gw_2343 : (Cond.instanceMethod ⟨"RelayHall", "forgetAll", "()V"⟩) ∈ lw_G := x_gw (inT_9 _ (List.mem_of_getElem? (i := 183) rfl)) rfl
theorem gw_2344 : (Cond.code ⟨"RelayHall", "forgetAll", "()V"⟩ prog_1_method_112_code 1 none) ∈ lw_G := x_gw (inT_9 _ (List.mem_of_getElem? (i := 184) rfl)) rfl
theorem gw_2345 : (Cond.methodLink "RelayHall" 198 ⟨"RelayHall", "restore", "()V"⟩) ∈ lw_G := x_gw (inT_9 _ (List.mem_of_getElem? (i := 185) rfl)) rfl
theorem gw_2347 : (Cond.instanceMethod ⟨"RelayHall", "restore", "()V"⟩) ∈ lw_G := x_gw (inT_9 _ (List.mem_of_getElem? (i := 187) rfl)) rfl
theorem gw_2348 : (Cond.code ⟨"RelayHall", "restore", "()V"⟩ prog_1_method_113_code 7 none) ∈ lw_G := x_gw (inT_9 _ (List.mem_of_getElem? (i := 188) rfl)) rfl
theorem gw_2349 : (Cond.classLink "RelayHall" 974 "RelayHall$Durable") ∈ lw_G := x_gw (inT_9 _ (List.mem_of_getElem? (i := 189) rfl)) rfl
theorem gw_2350 : (Cond.methodLink "RelayHall" 976 ⟨"RelayHall$Queue", "restart", "()V"⟩) ∈ lw_G := x_gw (inT_9 _ (List.mem_of_getElem? (i := 190) rfl)) rfl
theorem gw_2351 : (Cond.instanceMethod ⟨"RelayHall$Queue", "restart", "()V"⟩) ∈ lw_G := x_gw (inT_9 _ (List.mem_of_getElem? (i := 191) rfl)) rfl
theorem gw_2352 : (Cond.selects "RelayHall$Queue" ⟨"RelayHall$Queue", "restart", "()V"⟩ ⟨"RelayHall$Queue", "restart", "()V"⟩) ∈ lw_G := x_gw (inT_9 _ (List.mem_of_getElem? (i := 192) rfl)) rfl
theorem gw_2353 : (Cond.code ⟨"RelayHall$Queue", "restart", "()V"⟩ prog_10_method_5_code 1 none) ∈ lw_G := x_gw (inT_9 _ (List.mem_of_getElem? (i := 193) rfl)) rfl
theorem gw_2354 : (Cond.methodLink "RelayHall$Queue" 85 ⟨"java/util/ArrayList", "clear", "()V"⟩) ∈ lw_G := x_gw (inT_9 _ (List.mem_of_getElem? (i := 194) rfl)) rfl
theorem gw_2355 : (Cond.classLink "RelayHallLaw" 27 "RelayHallModel") ∈ lw_G := x_gw (inT_9 _ (List.mem_of_getElem? (i := 195) rfl)) rfl
theorem gw_2356 : (Cond.instantiable "RelayHallModel" 46) ∈ lw_G := x_gw (inT_9 _ (List.mem_of_getElem? (i := 196) rfl)) rfl
theorem gw_2357 : (Cond.methodLink "RelayHallLaw" 29 ⟨"RelayHallModel", "<init>", "()V"⟩) ∈ lw_G := x_gw (inT_9 _ (List.mem_of_getElem? (i := 197) rfl)) rfl
theorem gw_2358 : (Cond.instanceMethod ⟨"RelayHallModel", "<init>", "()V"⟩) ∈ lw_G := x_gw (inT_9 _ (List.mem_of_getElem? (i := 198) rfl)) rfl
theorem gw_2359 : (Cond.code ⟨"RelayHallModel", "<init>", "()V"⟩ prog_14_method_1_code 5 none) ∈ lw_G := x_gw (inT_9 _ (List.mem_of_getElem? (i := 199) rfl)) rfl
theorem gw_2360 : (Cond.methodLink "RelayHallModel" 1 ⟨"java/lang/Object", "<init>", "()V"⟩) ∈ lw_G := x_gw (inT_9 _ (List.mem_of_getElem? (i := 200) rfl)) rfl
theorem gw_2361 : (Cond.classLink "RelayHallModel" 7 "RelayHallModel$Connection") ∈ lw_G := x_gw (inT_9 _ (List.mem_of_getElem? (i := 201) rfl)) rfl
theorem gw_2363 : (Cond.classLink "RelayHallModel" 15 "RelayHallModel$Exchange") ∈ lw_G := x_gw (inT_9 _ (List.mem_of_getElem? (i := 203) rfl)) rfl
theorem gw_2365 : (Cond.classLink "RelayHallModel" 21 "RelayHallModel$Queue") ∈ lw_G := x_gw (inT_9 _ (List.mem_of_getElem? (i := 205) rfl)) rfl
theorem gw_2367 : (Cond.classLink "RelayHallModel" 27 "RelayHallModel$Binding") ∈ lw_G := x_gw (inT_9 _ (List.mem_of_getElem? (i := 207) rfl)) rfl
theorem gw_2369 : (Cond.classLink "RelayHallModel" 33 "RelayHallModel$Consumer") ∈ lw_G := x_gw (inT_9 _ (List.mem_of_getElem? (i := 209) rfl)) rfl
theorem gw_2371 : (Cond.classLink "RelayHallModel" 39 "RelayHallModel$Dead") ∈ lw_G := x_gw (inT_9 _ (List.mem_of_getElem? (i := 211) rfl)) rfl
theorem gw_2373 : (Cond.classLink "RelayHallModel" 45 "RelayHallModel$Fact") ∈ lw_G := x_gw (inT_9 _ (List.mem_of_getElem? (i := 213) rfl)) rfl
theorem gw_2375 : (Cond.classLink "RelayHallModel" 60 "RelayHallModel$Entry") ∈ lw_G := x_gw (inT_9 _ (List.mem_of_getElem? (i := 215) rfl)) rfl
theorem gw_2377 : (Cond.instantiable "RelayHallModel$Connection" 13) ∈ lw_G := x_gw (inT_9 _ (List.mem_of_getElem? (i := 217) rfl)) rfl
theorem gw_2379 : (Cond.instanceMethod ⟨"RelayHallModel$Connection", "<init>", "()V"⟩) ∈ lw_G := x_gw (inT_9 _ (List.mem_of_getElem? (i := 219) rfl)) rfl
theorem gw_2380 : (Cond.code ⟨"RelayHallModel$Connection", "<init>", "()V"⟩ prog_17_method_1_code 1 none) ∈ lw_G := x_gw (inT_9 _ (List.mem_of_getElem? (i := 220) rfl)) rfl
theorem gw_2381 : (Cond.methodLink "RelayHallModel$Connection" 1 ⟨"java/lang/Object", "<init>", "()V"⟩) ∈ lw_G := x_gw (inT_9 _ (List.mem_of_getElem? (i := 221) rfl)) rfl
theorem gw_2382 : (Cond.classLink "RelayHallModel$Connection" 16 "RelayHallModel$Channel") ∈ lw_G := x_gw (inT_9 _ (List.mem_of_getElem? (i := 222) rfl)) rfl
theorem gw_2384 : (Cond.fieldLink "RelayHallModel" 100 "RelayHallModel$Connection" "number" "I") ∈ lw_G := x_gw (inT_9 _ (List.mem_of_getElem? (i := 224) rfl)) rfl
theorem gw_2385 : (Cond.fieldLink "RelayHallModel" 228 "RelayHallModel$Connection" "state" "I") ∈ lw_G := x_gw (inT_9 _ (List.mem_of_getElem? (i := 225) rfl)) rfl
theorem gw_2386 : (Cond.fieldLink "RelayHallModel" 956 "RelayHallModel$Connection" "heartbeat" "I") ∈ lw_G := x_gw (inT_9 _ (List.mem_of_getElem? (i := 226) rfl)) rfl
theorem gw_2387 : (Cond.fieldLink "RelayHallModel" 316 "RelayHallModel$Connection" "inLong" "I") ∈ lw_G := x_gw (inT_9 _ (List.mem_of_getElem? (i := 227) rfl)) rfl
theorem gw_2388 : (Cond.fieldLink "RelayHallModel" 241 "RelayHallModel$Connection" "outFrom" "I") ∈ lw_G := x_gw (inT_9 _ (List.mem_of_getElem? (i := 228) rfl)) rfl
theorem gw_2389 : (Cond.fieldLink "RelayHallModel" 231 "RelayHallModel$Connection" "outLong" "I") ∈ lw_G := x_gw (inT_9 _ (List.mem_of_getElem? (i := 229) rfl)) rfl
theorem gw_2390 : (Cond.fieldLink "RelayHallModel" 1006 "RelayHallModel$Connection" "lastIn" "I") ∈ lw_G := x_gw (inT_9 _ (List.mem_of_getElem? (i := 230) rfl)) rfl
theorem gw_2391 : (Cond.fieldLink "RelayHallModel" 247 "RelayHallModel$Connection" "lastOut" "I") ∈ lw_G := x_gw (inT_9 _ (List.mem_of_getElem? (i := 231) rfl)) rfl
theorem gw_2392 : (Cond.fieldLink "RelayHallModel" 283 "RelayHallModel$Connection" "closingAt" "I") ∈ lw_G := x_gw (inT_9 _ (List.mem_of_getElem? (i := 232) rfl)) rfl
theorem gw_2393 : (Cond.fieldLink "RelayHallModel" 319 "RelayHallModel$Connection" "deaf" "Z") ∈ lw_G := x_gw (inT_9 _ (List.mem_of_getElem? (i := 233) rfl)) rfl
theorem gw_2394 : (Cond.fieldLink "RelayHallModel$Connection" 7 "RelayHallModel$Connection" "in" "[B") ∈ lw_G := x_gw (inT_9 _ (List.mem_of_getElem? (i := 234) rfl)) rfl
theorem gw_2395 : (Cond.fieldLink "RelayHallModel" 962 "RelayHallModel$Connection" "in" "[B") ∈ lw_G := x_gw (inT_9 _ (List.mem_of_getElem? (i := 235) rfl)) rfl
theorem gw_2396 : (Cond.fieldLink "RelayHallModel$Connection" 13 "RelayHallModel$Connection" "out" "[B") ∈ lw_G := x_gw (inT_9 _ (List.mem_of_getElem? (i := 236) rfl)) rfl
theorem gw_2397 : (Cond.fieldLink "RelayHallModel" 238 "RelayHallModel$Connection" "out" "[B") ∈ lw_G := x_gw (inT_9 _ (List.mem_of_getElem? (i := 237) rfl)) rfl
theorem gw_2398 : (Cond.fieldLink "RelayHallModel$Connection" 18 "RelayHallModel$Connection" "channels" "[LRelayHallModel$Channel;") ∈ lw_G := x_gw (inT_9 _ (List.mem_of_getElem? (i := 238) rfl)) rfl
theorem gw_2399 : (Cond.fieldLink "RelayHallModel" 112 "RelayHallModel$Connection" "channels" "[LRelayHallModel$Channel;") ∈ lw_G := x_gw (inT_9 _ (List.mem_of_getElem? (i := 239) rfl)) rfl
theorem gw_2427 : (Cond.arrayClass .boolean) ∈ lw_G := x_gw (inT_10 _ (List.mem_of_getElem? (i := 27) rfl)) rfl
theorem gw_2428 : (Cond.classLink "RelayHallModel" 104 "RelayHallModel$Channel") ∈ lw_G := x_gw (inT_10 _ (List.mem_of_getElem? (i := 28) rfl)) rfl
theorem gw_2429 : (Cond.instantiable "RelayHallModel$Channel" 19) ∈ lw_G := x_gw (inT_10 _ (List.mem_of_getElem? (i := 29) rfl)) rfl
theorem gw_2431 : (Cond.instanceMethod ⟨"RelayHallModel$Channel", "<init>", "()V"⟩) ∈ lw_G := x_gw (inT_10 _ (List.mem_of_getElem? (i := 31) rfl)) rfl
theorem gw_2432 : (Cond.code ⟨"RelayHallModel$Channel", "<init>", "()V"⟩ prog_16_method_1_code 1 none) ∈ lw_G := x_gw (inT_10 _ (List.mem_of_getElem? (i := 32) rfl)) rfl
theorem gw_2433 : (Cond.methodLink "RelayHallModel$Channel" 1 ⟨"java/lang/Object", "<init>", "()V"⟩) ∈ lw_G := x_gw (inT_10 _ (List.mem_of_getElem? (i := 33) rfl)) rfl
theorem gw_2434 : (Cond.classLink "RelayHallModel$Channel" 7 "RelayHallModel$Sent") ∈ lw_G := x_gw (inT_10 _ (List.mem_of_getElem? (i := 34) rfl)) rfl
theorem gw_2436 : (Cond.classLink "RelayHallModel$Channel" 15 "RelayHallModel$Kept") ∈ lw_G := x_gw (inT_10 _ (List.mem_of_getElem? (i := 36) rfl)) rfl
theorem gw_2438 : (Cond.fieldLink "RelayHallModel" 107 "RelayHallModel$Channel" "connection" "LRelayHallModel$Connection;") ∈ lw_G := x_gw (inT_10 _ (List.mem_of_getElem? (i := 38) rfl)) rfl
theorem gw_2439 : (Cond.fieldLink "RelayHallModel" 111 "RelayHallModel$Channel" "number" "I") ∈ lw_G := x_gw (inT_10 _ (List.mem_of_getElem? (i := 39) rfl)) rfl
theorem gw_2440 : (Cond.fieldLink "RelayHallModel" 278 "RelayHallModel$Channel" "state" "I") ∈ lw_G := x_gw (inT_10 _ (List.mem_of_getElem? (i := 40) rfl)) rfl
theorem gw_2441 : (Cond.fieldLink "RelayHallModel" 367 "RelayHallModel$Channel" "mode" "I") ∈ lw_G := x_gw (inT_10 _ (List.mem_of_getElem? (i := 41) rfl)) rfl
theorem gw_2442 : (Cond.fieldLink "RelayHallModel" 677 "RelayHallModel$Channel" "limit" "I") ∈ lw_G := x_gw (inT_10 _ (List.mem_of_getElem? (i := 42) rfl)) rfl
theorem gw_2443 : (Cond.fieldLink "RelayHallModel" 705 "RelayHallModel$Channel" "comingLimit" "I") ∈ lw_G := x_gw (inT_10 _ (List.mem_of_getElem? (i := 43) rfl)) rfl
theorem gw_2444 : (Cond.fieldLink "RelayHallModel" 373 "RelayHallModel$Channel" "tag" "I") ∈ lw_G := x_gw (inT_10 _ (List.mem_of_getElem? (i := 44) rfl)) rfl
theorem gw_2445 : (Cond.fieldLink "RelayHallModel" 370 "RelayHallModel$Channel" "confirm" "I") ∈ lw_G := x_gw (inT_10 _ (List.mem_of_getElem? (i := 45) rfl)) rfl
theorem gw_2446 : (Cond.fieldLink "RelayHallModel" 708 "RelayHallModel$Channel" "tags" "I") ∈ lw_G := x_gw (inT_10 _ (List.mem_of_getElem? (i := 46) rfl)) rfl
theorem gw_2447 : (Cond.fieldLink "RelayHallModel" 350 "RelayHallModel$Channel" "keeps" "I") ∈ lw_G := x_gw (inT_10 _ (List.mem_of_getElem? (i := 47) rfl)) rfl
theorem gw_2448 : (Cond.fieldLink "RelayHallModel" 333 "RelayHallModel$Channel" "unacked" "I") ∈ lw_G := x_gw (inT_10 _ (List.mem_of_getElem? (i := 48) rfl)) rfl
theorem gw_2449 : (Cond.fieldLink "RelayHallModel" 357 "RelayHallModel$Channel" "waits" "I") ∈ lw_G := x_gw (inT_10 _ (List.mem_of_getElem? (i := 49) rfl)) rfl
theorem gw_2450 : (Cond.fieldLink "RelayHallModel" 360 "RelayHallModel$Channel" "due" "I") ∈ lw_G := x_gw (inT_10 _ (List.mem_of_getElem? (i := 50) rfl)) rfl
theorem gw_2451 : (Cond.fieldLink "RelayHallModel" 664 "RelayHallModel$Channel" "active" "Z") ∈ lw_G := x_gw (inT_10 _ (List.mem_of_getElem? (i := 51) rfl)) rfl
theorem gw_2452 : (Cond.fieldLink "RelayHallModel" 711 "RelayHallModel$Channel" "lastQueue" "[B") ∈ lw_G := x_gw (inT_10 _ (List.mem_of_getElem? (i := 52) rfl)) rfl
theorem gw_2453 : (Cond.fieldLink "RelayHallModel" 363 "RelayHallModel$Channel" "content" "LRelayHallModel$Content;") ∈ lw_G := x_gw (inT_10 _ (List.mem_of_getElem? (i := 53) rfl)) rfl
theorem gw_2454 : (Cond.fieldLink "RelayHallModel$Channel" 9 "RelayHallModel$Channel" "sent" "[LRelayHallModel$Sent;") ∈ lw_G := x_gw (inT_10 _ (List.mem_of_getElem? (i := 54) rfl)) rfl
theorem gw_2455 : (Cond.fieldLink "RelayHallModel" 376 "RelayHallModel$Channel" "sent" "[LRelayHallModel$Sent;") ∈ lw_G := x_gw (inT_10 _ (List.mem_of_getElem? (i := 55) rfl)) rfl
theorem gw_2456 : (Cond.fieldLink "RelayHallModel$Channel" 17 "RelayHallModel$Channel" "kept" "[LRelayHallModel$Kept;") ∈ lw_G := x_gw (inT_10 _ (List.mem_of_getElem? (i := 56) rfl)) rfl
theorem gw_2457 : (Cond.fieldLink "RelayHallModel" 353 "RelayHallModel$Channel" "kept" "[LRelayHallModel$Kept;") ∈ lw_G := x_gw (inT_10 _ (List.mem_of_getElem? (i := 57) rfl)) rfl
theorem gw_2458 : (Cond.fieldLink "RelayHallModel$Channel" 21 "RelayHallModel$Channel" "confirms" "[I") ∈ lw_G := x_gw (inT_10 _ (List.mem_of_getElem? (i := 58) rfl)) rfl
theorem gw_2459 : (Cond.fieldLink "RelayHallModel" 657 "RelayHallModel$Channel" "confirms" "[I") ∈ lw_G := x_gw (inT_10 _ (List.mem_of_getElem? (i := 59) rfl)) rfl
theorem gw_2499 : (Cond.fieldLink "RelayHallModel" 9 "RelayHallModel" "connections" "[LRelayHallModel$Connection;") ∈ lw_G := x_gw (inT_10 _ (List.mem_of_getElem? (i := 99) rfl)) rfl
theorem gw_2500 : (Cond.fieldLink "RelayHallModel" 17 "RelayHallModel" "exchanges" "[LRelayHallModel$Exchange;") ∈ lw_G := x_gw (inT_10 _ (List.mem_of_getElem? (i := 100) rfl)) rfl
theorem gw_2501 : (Cond.fieldLink "RelayHallModel" 23 "RelayHallModel" "queues" "[LRelayHallModel$Queue;") ∈ lw_G := x_gw (inT_10 _ (List.mem_of_getElem? (i := 101) rfl)) rfl
theorem gw_2502 : (Cond.fieldLink "RelayHallModel" 29 "RelayHallModel" "bindings" "[LRelayHallModel$Binding;") ∈ lw_G := x_gw (inT_10 _ (List.mem_of_getElem? (i := 102) rfl)) rfl
theorem gw_2503 : (Cond.fieldLink "RelayHallModel" 35 "RelayHallModel" "consumers" "[LRelayHallModel$Consumer;") ∈ lw_G := x_gw (inT_10 _ (List.mem_of_getElem? (i := 103) rfl)) rfl
theorem gw_2504 : (Cond.fieldLink "RelayHallModel" 446 "RelayHallModel" "exchangeMany" "I") ∈ lw_G := x_gw (inT_10 _ (List.mem_of_getElem? (i := 104) rfl)) rfl
theorem gw_2505 : (Cond.fieldLink "RelayHallModel" 303 "RelayHallModel" "queueMany" "I") ∈ lw_G := x_gw (inT_10 _ (List.mem_of_getElem? (i := 105) rfl)) rfl
theorem gw_2506 : (Cond.fieldLink "RelayHallModel" 453 "RelayHallModel" "bindingMany" "I") ∈ lw_G := x_gw (inT_10 _ (List.mem_of_getElem? (i := 106) rfl)) rfl
theorem gw_2507 : (Cond.fieldLink "RelayHallModel" 322 "RelayHallModel" "consumerMany" "I") ∈ lw_G := x_gw (inT_10 _ (List.mem_of_getElem? (i := 107) rfl)) rfl
theorem gw_2508 : (Cond.fieldLink "RelayHallModel" 477 "RelayHallModel" "messages" "I") ∈ lw_G := x_gw (inT_10 _ (List.mem_of_getElem? (i := 108) rfl)) rfl
theorem gw_2509 : (Cond.fieldLink "RelayHallModel" 511 "RelayHallModel" "lastNumber" "I") ∈ lw_G := x_gw (inT_10 _ (List.mem_of_getElem? (i := 109) rfl)) rfl
theorem gw_2510 : (Cond.fieldLink "RelayHallModel" 782 "RelayHallModel" "generated" "I") ∈ lw_G := x_gw (inT_10 _ (List.mem_of_getElem? (i := 110) rfl)) rfl
theorem gw_2511 : (Cond.fieldLink "RelayHallModel" 244 "RelayHallModel" "clock" "I") ∈ lw_G := x_gw (inT_10 _ (List.mem_of_getElem? (i := 111) rfl)) rfl
theorem gw_2512 : (Cond.fieldLink "RelayHallModel" 521 "RelayHallModel" "deadOnes" "I") ∈ lw_G := x_gw (inT_10 _ (List.mem_of_getElem? (i := 112) rfl)) rfl
theorem gw_2513 : (Cond.fieldLink "RelayHallModel" 41 "RelayHallModel" "dead" "[LRelayHallModel$Dead;") ∈ lw_G := x_gw (inT_10 _ (List.mem_of_getElem? (i := 113) rfl)) rfl
theorem gw_2514 : (Cond.fieldLink "RelayHallModel" 530 "RelayHallModel" "deadMany" "I") ∈ lw_G := x_gw (inT_10 _ (List.mem_of_getElem? (i := 114) rfl)) rfl
theorem gw_2515 : (Cond.fieldLink "RelayHallModel" 47 "RelayHallModel" "facts" "[LRelayHallModel$Fact;") ∈ lw_G := x_gw (inT_10 _ (List.mem_of_getElem? (i := 115) rfl)) rfl
theorem gw_2516 : (Cond.fieldLink "RelayHallModel" 397 "RelayHallModel" "factMany" "I") ∈ lw_G := x_gw (inT_10 _ (List.mem_of_getElem? (i := 116) rfl)) rfl
theorem gw_2517 : (Cond.fieldLink "RelayHallModel" 51 "RelayHallModel" "safeExchanges" "[LRelayHallModel$Exchange;") ∈ lw_G := x_gw (inT_10 _ (List.mem_of_getElem? (i := 117) rfl)) rfl
theorem gw_2518 : (Cond.fieldLink "RelayHallModel" 54 "RelayHallModel" "safeQueues" "[LRelayHallModel$Queue;") ∈ lw_G := x_gw (inT_10 _ (List.mem_of_getElem? (i := 118) rfl)) rfl
theorem gw_2519 : (Cond.fieldLink "RelayHallModel" 57 "RelayHallModel" "safeBindings" "[LRelayHallModel$Binding;") ∈ lw_G := x_gw (inT_10 _ (List.mem_of_getElem? (i := 119) rfl)) rfl
theorem gw_2520 : (Cond.fieldLink "RelayHallModel" 62 "RelayHallModel" "safeEntries" "[LRelayHallModel$Entry;") ∈ lw_G := x_gw (inT_10 _ (List.mem_of_getElem? (i := 120) rfl)) rfl
theorem gw_2521 : (Cond.fieldLink "RelayHallModel" 420 "RelayHallModel" "safeExchangeMany" "I") ∈ lw_G := x_gw (inT_10 _ (List.mem_of_getElem? (i := 121) rfl)) rfl
theorem gw_2522 : (Cond.fieldLink "RelayHallModel" 427 "RelayHallModel" "safeQueueMany" "I") ∈ lw_G := x_gw (inT_10 _ (List.mem_of_getElem? (i := 122) rfl)) rfl
theorem gw_2523 : (Cond.fieldLink "RelayHallModel" 414 "RelayHallModel" "safeBindingMany" "I") ∈ lw_G := x_gw (inT_10 _ (List.mem_of_getElem? (i := 123) rfl)) rfl
theorem gw_2524 : (Cond.fieldLink "RelayHallModel" 417 "RelayHallModel" "safeEntryMany" "I") ∈ lw_G := x_gw (inT_10 _ (List.mem_of_getElem? (i := 124) rfl)) rfl
theorem gw_2525 : (Cond.fieldLink "RelayHallModel" 66 "RelayHallModel" "tape" "[B") ∈ lw_G := x_gw (inT_10 _ (List.mem_of_getElem? (i := 125) rfl)) rfl
theorem gw_2526 : (Cond.fieldLink "RelayHallModel" 999 "RelayHallModel" "tapeLong" "I") ∈ lw_G := x_gw (inT_10 _ (List.mem_of_getElem? (i := 126) rfl)) rfl
theorem gw_2527 : (Cond.fieldLink "RelayHallModel" 116 "RelayHallModel" "thrown" "I") ∈ lw_G := x_gw (inT_10 _ (List.mem_of_getElem? (i := 127) rfl)) rfl
theorem gw_2528 : (Cond.fieldLink "RelayHallModel" 70 "RelayHallModel" "frame" "[B") ∈ lw_G := x_gw (inT_10 _ (List.mem_of_getElem? (i := 128) rfl)) rfl
theorem gw_2529 : (Cond.fieldLink "RelayHallModel" 122 "RelayHallModel" "frameLong" "I") ∈ lw_G := x_gw (inT_10 _ (List.mem_of_getElem? (i := 129) rfl)) rfl
theorem gw_2530 : (Cond.fieldLink "RelayHallModel" 119 "RelayHallModel" "at" "I") ∈ lw_G := x_gw (inT_10 _ (List.mem_of_getElem? (i := 130) rfl)) rfl
theorem gw_2531 : (Cond.fieldLink "RelayHallModel" 289 "RelayHallModel" "theClass" "I") ∈ lw_G := x_gw (inT_10 _ (List.mem_of_getElem? (i := 131) rfl)) rfl
theorem gw_2532 : (Cond.fieldLink "RelayHallModel" 292 "RelayHallModel" "theMethod" "I") ∈ lw_G := x_gw (inT_10 _ (List.mem_of_getElem? (i := 132) rfl)) rfl
theorem gw_2533 : (Cond.fieldLink "RelayHallModel" 125 "RelayHallModel" "bad" "Z") ∈ lw_G := x_gw (inT_10 _ (List.mem_of_getElem? (i := 133) rfl)) rfl
theorem gw_2534 : (Cond.fieldLink "RelayHallModel" 73 "RelayHallModel" "draft" "[B") ∈ lw_G := x_gw (inT_10 _ (List.mem_of_getElem? (i := 134) rfl)) rfl
theorem gw_2535 : (Cond.fieldLink "RelayHallModel" 204 "RelayHallModel" "draftLong" "I") ∈ lw_G := x_gw (inT_10 _ (List.mem_of_getElem? (i := 135) rfl)) rfl
theorem gw_2536 : (Cond.fieldLink "RelayHallModel" 218 "RelayHallModel" "sizeAt" "I") ∈ lw_G := x_gw (inT_10 _ (List.mem_of_getElem? (i := 136) rfl)) rfl
theorem gw_2537 : (Cond.fieldLink "RelayHallModel" 76 "RelayHallModel" "patternFrom" "[I") ∈ lw_G := x_gw (inT_10 _ (List.mem_of_getElem? (i := 137) rfl)) rfl
theorem gw_2538 : (Cond.fieldLink "RelayHallModel" 80 "RelayHallModel" "patternTo" "[I") ∈ lw_G := x_gw (inT_10 _ (List.mem_of_getElem? (i := 138) rfl)) rfl
theorem gw_2539 : (Cond.fieldLink "RelayHallModel" 83 "RelayHallModel" "keyFrom" "[I") ∈ lw_G := x_gw (inT_10 _ (List.mem_of_getElem? (i := 139) rfl)) rfl
theorem gw_2540 : (Cond.fieldLink "RelayHallModel" 86 "RelayHallModel" "keyTo" "[I") ∈ lw_G := x_gw (inT_10 _ (List.mem_of_getElem? (i := 140) rfl)) rfl
theorem gw_2541 : (Cond.fieldLink "RelayHallModel" 89 "RelayHallModel" "row" "[Z") ∈ lw_G := x_gw (inT_10 _ (List.mem_of_getElem? (i := 141) rfl)) rfl
theorem gw_2542 : (Cond.fieldLink "RelayHallModel" 93 "RelayHallModel" "nextRow" "[Z") ∈ lw_G := x_gw (inT_10 _ (List.mem_of_getElem? (i := 142) rfl)) rfl
theorem gw_2543 : (Cond.fieldLink "RelayHallModel" 96 "RelayHallModel" "routed" "[LRelayHallModel$Queue;") ∈ lw_G := x_gw (inT_10 _ (List.mem_of_getElem? (i := 143) rfl)) rfl
theorem gw_2544 : (Cond.fieldLink "RelayHallModel" 1028 "RelayHallModel" "crashes" "I") ∈ lw_G := x_gw (inT_10 _ (List.mem_of_getElem? (i := 144) rfl)) rfl
theorem gw_2638 : (Cond.methodLink "RelayHallLaw" 60 ⟨"RelayHallModel", "thrown", "()I"⟩) ∈ lw_G := x_gw (inT_10 _ (List.mem_of_getElem? (i := 238) rfl)) rfl
theorem gw_2639 : (Cond.instanceMethod ⟨"RelayHallModel", "thrown", "()I"⟩) ∈ lw_G := x_gw (inT_10 _ (List.mem_of_getElem? (i := 239) rfl)) rfl
theorem gw_2640 : (Cond.selects "RelayHallModel" ⟨"RelayHallModel", "thrown", "()I"⟩ ⟨"RelayHallModel", "thrown", "()I"⟩) ∈ lw_G := x_gw (inT_11 _ (List.mem_of_getElem? (i := 0) rfl)) rfl
theorem gw_2641 : (Cond.code ⟨"RelayHallModel", "thrown", "()I"⟩ prog_14_method_2_code 1 (some .int)) ∈ lw_G := x_gw (inT_11 _ (List.mem_of_getElem? (i := 1) rfl)) rfl
theorem gw_2642 : (Cond.methodLink "RelayHallLaw" 36 ⟨"RelayHallModel", "type", "(JI)Z"⟩) ∈ lw_G := x_gw (inT_11 _ (List.mem_of_getElem? (i := 2) rfl)) rfl
theorem gw_2643 : (Cond.instanceMethod ⟨"RelayHallModel", "type", "(JI)Z"⟩) ∈ lw_G := x_gw (inT_11 _ (List.mem_of_getElem? (i := 3) rfl)) rfl
theorem gw_2644 : (Cond.selects "RelayHallModel" ⟨"RelayHallModel", "type", "(JI)Z"⟩ ⟨"RelayHallModel", "type", "(JI)Z"⟩) ∈ lw_G := x_gw (inT_11 _ (List.mem_of_getElem? (i := 4) rfl)) rfl
theorem gw_2645 : (Cond.code ⟨"RelayHallModel", "type", "(JI)Z"⟩ prog_14_method_149_code 5 (some .boolean)) ∈ lw_G := x_gw (inT_11 _ (List.mem_of_getElem? (i := 5) rfl)) rfl
theorem gw_2646 : (Cond.methodLink "RelayHallLaw" 41 ⟨"RelayHallModel", "connect", "(I)Z"⟩) ∈ lw_G := x_gw (inT_11 _ (List.mem_of_getElem? (i := 6) rfl)) rfl
theorem gw_2647 : (Cond.instanceMethod ⟨"RelayHallModel", "connect", "(I)Z"⟩) ∈ lw_G := x_gw (inT_11 _ (List.mem_of_getElem? (i := 7) rfl)) rfl
theorem gw_2648 : (Cond.selects "RelayHallModel" ⟨"RelayHallModel", "connect", "(I)Z"⟩ ⟨"RelayHallModel", "connect", "(I)Z"⟩) ∈ lw_G := x_gw (inT_11 _ (List.mem_of_getElem? (i := 8) rfl)) rfl
theorem gw_2649 : (Cond.code ⟨"RelayHallModel", "connect", "(I)Z"⟩ prog_14_method_151_code 3 (some .boolean)) ∈ lw_G := x_gw (inT_11 _ (List.mem_of_getElem? (i := 9) rfl)) rfl
theorem gw_2650 : (Cond.methodLink "RelayHallModel" 1002 ⟨"RelayHallModel", "isConnection", "(I)Z"⟩) ∈ lw_G := x_gw (inT_11 _ (List.mem_of_getElem? (i := 10) rfl)) rfl
theorem gw_2651 : (Cond.static ⟨"RelayHallModel", "isConnection", "(I)Z"⟩) ∈ lw_G := x_gw (inT_11 _ (List.mem_of_getElem? (i := 11) rfl)) rfl
theorem gw_2652 : (Cond.code ⟨"RelayHallModel", "isConnection", "(I)Z"⟩ prog_14_method_150_code 1 (some .boolean)) ∈ lw_G := x_gw (inT_11 _ (List.mem_of_getElem? (i := 12) rfl)) rfl
theorem gw_2653 : (Cond.methodLink "RelayHallLaw" 45 ⟨"RelayHallModel", "send", "(I)I"⟩) ∈ lw_G := x_gw (inT_11 _ (List.mem_of_getElem? (i := 13) rfl)) rfl
theorem gw_2654 : (Cond.instanceMethod ⟨"RelayHallModel", "send", "(I)I"⟩) ∈ lw_G := x_gw (inT_11 _ (List.mem_of_getElem? (i := 14) rfl)) rfl
theorem gw_2655 : (Cond.selects "RelayHallModel" ⟨"RelayHallModel", "send", "(I)I"⟩ ⟨"RelayHallModel", "send", "(I)I"⟩) ∈ lw_G := x_gw (inT_11 _ (List.mem_of_getElem? (i := 15) rfl)) rfl
theorem gw_2656 : (Cond.code ⟨"RelayHallModel", "send", "(I)I"⟩ prog_14_method_152_code 5 (some .int)) ∈ lw_G := x_gw (inT_11 _ (List.mem_of_getElem? (i := 16) rfl)) rfl
theorem gw_2657 : (Cond.methodLink "RelayHallModel" 1009 ⟨"RelayHallModel", "takeIn", "(LRelayHallModel$Connection;)V"⟩) ∈ lw_G := x_gw (inT_11 _ (List.mem_of_getElem? (i := 17) rfl)) rfl
theorem gw_2659 : (Cond.instanceMethod ⟨"RelayHallModel", "takeIn", "(LRelayHallModel$Connection;)V"⟩) ∈ lw_G := x_gw (inT_11 _ (List.mem_of_getElem? (i := 19) rfl)) rfl
theorem gw_2660 : (Cond.code ⟨"RelayHallModel", "takeIn", "(LRelayHallModel$Connection;)V"⟩ prog_14_method_148_code 3 none) ∈ lw_G := x_gw (inT_11 _ (List.mem_of_getElem? (i := 20) rfl)) rfl
theorem gw_2661 : (Cond.methodLink "RelayHallModel" 995 ⟨"RelayHallModel", "takesOne", "(LRelayHallModel$Connection;)Z"⟩) ∈ lw_G := x_gw (inT_11 _ (List.mem_of_getElem? (i := 21) rfl)) rfl
theorem gw_2663 : (Cond.instanceMethod ⟨"RelayHallModel", "takesOne", "(LRelayHallModel$Connection;)Z"⟩) ∈ lw_G := x_gw (inT_11 _ (List.mem_of_getElem? (i := 23) rfl)) rfl
theorem gw_2664 : (Cond.code ⟨"RelayHallModel", "takesOne", "(LRelayHallModel$Connection;)Z"⟩ prog_14_method_147_code 7 (some .boolean)) ∈ lw_G := x_gw (inT_11 _ (List.mem_of_getElem? (i := 24) rfl)) rfl
theorem gw_2665 : (Cond.methodLink "RelayHallModel" 972 ⟨"RelayHallModel", "greet", "(LRelayHallModel$Connection;)V"⟩) ∈ lw_G := x_gw (inT_11 _ (List.mem_of_getElem? (i := 25) rfl)) rfl
theorem gw_2667 : (Cond.instanceMethod ⟨"RelayHallModel", "greet", "(LRelayHallModel$Connection;)V"⟩) ∈ lw_G := x_gw (inT_11 _ (List.mem_of_getElem? (i := 27) rfl)) rfl
theorem gw_2668 : (Cond.code ⟨"RelayHallModel", "greet", "(LRelayHallModel$Connection;)V"⟩ prog_14_method_144_code 4 none) ∈ lw_G := x_gw (inT_11 _ (List.mem_of_getElem? (i := 28) rfl)) rfl
theorem gw_2669 : (Cond.fieldLink "RelayHallModel" 965 "RelayHallModel" "GREETS" "[B") ∈ lw_G := x_gw (inT_11 _ (List.mem_of_getElem? (i := 29) rfl)) rfl
theorem gw_2671 : (Cond.methodLink "RelayHallModel" 968 ⟨"RelayHallModel", "drop", "(LRelayHallModel$Connection;I)V"⟩) ∈ lw_G := x_gw (inT_11 _ (List.mem_of_getElem? (i := 31) rfl)) rfl
theorem gw_2673 : (Cond.instanceMethod ⟨"RelayHallModel", "drop", "(LRelayHallModel$Connection;I)V"⟩) ∈ lw_G := x_gw (inT_11 _ (List.mem_of_getElem? (i := 33) rfl)) rfl
theorem gw_2674 : (Cond.code ⟨"RelayHallModel", "drop", "(LRelayHallModel$Connection;I)V"⟩ prog_14_method_145_code 4 none) ∈ lw_G := x_gw (inT_11 _ (List.mem_of_getElem? (i := 34) rfl)) rfl
theorem gw_2675 : (Cond.methodLink "RelayHallModel" 256 ⟨"RelayHallModel", "beginMethod", "(III)V"⟩) ∈ lw_G := x_gw (inT_11 _ (List.mem_of_getElem? (i := 35) rfl)) rfl
theorem gw_2677 : (Cond.instanceMethod ⟨"RelayHallModel", "beginMethod", "(III)V"⟩) ∈ lw_G := x_gw (inT_11 _ (List.mem_of_getElem? (i := 37) rfl)) rfl
theorem gw_2678 : (Cond.code ⟨"RelayHallModel", "beginMethod", "(III)V"⟩ prog_14_method_25_code 4 none) ∈ lw_G := x_gw (inT_11 _ (List.mem_of_getElem? (i := 38) rfl)) rfl
theorem gw_2679 : (Cond.methodLink "RelayHallModel" 224 ⟨"RelayHallModel", "beginFrame", "(II)V"⟩) ∈ lw_G := x_gw (inT_11 _ (List.mem_of_getElem? (i := 39) rfl)) rfl
theorem gw_2681 : (Cond.instanceMethod ⟨"RelayHallModel", "beginFrame", "(II)V"⟩) ∈ lw_G := x_gw (inT_11 _ (List.mem_of_getElem? (i := 41) rfl)) rfl
theorem gw_2682 : (Cond.code ⟨"RelayHallModel", "beginFrame", "(II)V"⟩ prog_14_method_23_code 3 none) ∈ lw_G := x_gw (inT_11 _ (List.mem_of_getElem? (i := 42) rfl)) rfl
theorem gw_2683 : (Cond.methodLink "RelayHallModel" 207 ⟨"RelayHallModel", "put", "(I)V"⟩) ∈ lw_G := x_gw (inT_11 _ (List.mem_of_getElem? (i := 43) rfl)) rfl
theorem gw_2685 : (Cond.instanceMethod ⟨"RelayHallModel", "put", "(I)V"⟩) ∈ lw_G := x_gw (inT_11 _ (List.mem_of_getElem? (i := 45) rfl)) rfl
theorem gw_2686 : (Cond.code ⟨"RelayHallModel", "put", "(I)V"⟩ prog_14_method_18_code 2 none) ∈ lw_G := x_gw (inT_11 _ (List.mem_of_getElem? (i := 46) rfl)) rfl
theorem gw_2687 : (Cond.methodLink "RelayHallModel" 211 ⟨"RelayHallModel", "put16", "(I)V"⟩) ∈ lw_G := x_gw (inT_11 _ (List.mem_of_getElem? (i := 47) rfl)) rfl
theorem gw_2689 : (Cond.instanceMethod ⟨"RelayHallModel", "put16", "(I)V"⟩) ∈ lw_G := x_gw (inT_11 _ (List.mem_of_getElem? (i := 49) rfl)) rfl
theorem gw_2690 : (Cond.code ⟨"RelayHallModel", "put16", "(I)V"⟩ prog_14_method_19_code 2 none) ∈ lw_G := x_gw (inT_11 _ (List.mem_of_getElem? (i := 50) rfl)) rfl
theorem gw_2691 : (Cond.methodLink "RelayHallModel" 221 ⟨"RelayHallModel", "put32", "(I)V"⟩) ∈ lw_G := x_gw (inT_11 _ (List.mem_of_getElem? (i := 51) rfl)) rfl
theorem gw_2693 : (Cond.instanceMethod ⟨"RelayHallModel", "put32", "(I)V"⟩) ∈ lw_G := x_gw (inT_11 _ (List.mem_of_getElem? (i := 53) rfl)) rfl
theorem gw_2694 : (Cond.code ⟨"RelayHallModel", "put32", "(I)V"⟩ prog_14_method_20_code 2 none) ∈ lw_G := x_gw (inT_11 _ (List.mem_of_getElem? (i := 54) rfl)) rfl
theorem gw_2695 : (Cond.methodLink "RelayHallModel" 260 ⟨"RelayHallModel", "goFrame", "(LRelayHallModel$Connection;)V"⟩) ∈ lw_G := x_gw (inT_11 _ (List.mem_of_getElem? (i := 55) rfl)) rfl
theorem gw_2697 : (Cond.instanceMethod ⟨"RelayHallModel", "goFrame", "(LRelayHallModel$Connection;)V"⟩) ∈ lw_G := x_gw (inT_11 _ (List.mem_of_getElem? (i := 57) rfl)) rfl
theorem gw_2698 : (Cond.code ⟨"RelayHallModel", "goFrame", "(LRelayHallModel$Connection;)V"⟩ prog_14_method_27_code 2 none) ∈ lw_G := x_gw (inT_11 _ (List.mem_of_getElem? (i := 58) rfl)) rfl
theorem gw_2699 : (Cond.methodLink "RelayHallModel" 250 ⟨"RelayHallModel", "endFrame", "()V"⟩) ∈ lw_G := x_gw (inT_11 _ (List.mem_of_getElem? (i := 59) rfl)) rfl
theorem gw_2701 : (Cond.instanceMethod ⟨"RelayHallModel", "endFrame", "()V"⟩) ∈ lw_G := x_gw (inT_11 _ (List.mem_of_getElem? (i := 61) rfl)) rfl
theorem gw_2702 : (Cond.code ⟨"RelayHallModel", "endFrame", "()V"⟩ prog_14_method_24_code 2 none) ∈ lw_G := x_gw (inT_11 _ (List.mem_of_getElem? (i := 62) rfl)) rfl
theorem gw_2703 : (Cond.methodLink "RelayHallModel" 253 ⟨"RelayHallModel", "go", "(LRelayHallModel$Connection;)V"⟩) ∈ lw_G := x_gw (inT_11 _ (List.mem_of_getElem? (i := 63) rfl)) rfl
theorem gw_2705 : (Cond.instanceMethod ⟨"RelayHallModel", "go", "(LRelayHallModel$Connection;)V"⟩) ∈ lw_G := x_gw (inT_11 _ (List.mem_of_getElem? (i := 65) rfl)) rfl
theorem gw_2706 : (Cond.code ⟨"RelayHallModel", "go", "(LRelayHallModel$Connection;)V"⟩ prog_14_method_26_code 3 none) ∈ lw_G := x_gw (inT_11 _ (List.mem_of_getElem? (i := 66) rfl)) rfl
theorem gw_2707 : (Cond.methodLink "RelayHallModel" 234 ⟨"RelayHallModel", "close", "(LRelayHallModel$Connection;)V"⟩) ∈ lw_G := x_gw (inT_11 _ (List.mem_of_getElem? (i := 67) rfl)) rfl
theorem gw_2709 : (Cond.instanceMethod ⟨"RelayHallModel", "close", "(LRelayHallModel$Connection;)V"⟩) ∈ lw_G := x_gw (inT_11 _ (List.mem_of_getElem? (i := 69) rfl)) rfl
theorem gw_2710 : (Cond.code ⟨"RelayHallModel", "close", "(LRelayHallModel$Connection;)V"⟩ prog_14_method_36_code 3 none) ∈ lw_G := x_gw (inT_11 _ (List.mem_of_getElem? (i := 70) rfl)) rfl
theorem gw_2711 : (Cond.methodLink "RelayHallModel" 286 ⟨"RelayHallModel", "end", "(LRelayHallModel$Connection;)V"⟩) ∈ lw_G := x_gw (inT_11 _ (List.mem_of_getElem? (i := 71) rfl)) rfl
theorem gw_2713 : (Cond.instanceMethod ⟨"RelayHallModel", "end", "(LRelayHallModel$Connection;)V"⟩) ∈ lw_G := x_gw (inT_11 _ (List.mem_of_getElem? (i := 73) rfl)) rfl
theorem gw_2714 : (Cond.code ⟨"RelayHallModel", "end", "(LRelayHallModel$Connection;)V"⟩ prog_14_method_35_code 3 none) ∈ lw_G := x_gw (inT_11 _ (List.mem_of_getElem? (i := 74) rfl)) rfl
theorem gw_2715 : (Cond.methodLink "RelayHallModel" 299 ⟨"RelayHallModel", "gone", "(LRelayHallModel$Channel;)V"⟩) ∈ lw_G := x_gw (inT_11 _ (List.mem_of_getElem? (i := 75) rfl)) rfl
theorem gw_2717 : (Cond.instanceMethod ⟨"RelayHallModel", "gone", "(LRelayHallModel$Channel;)V"⟩) ∈ lw_G := x_gw (inT_11 _ (List.mem_of_getElem? (i := 77) rfl)) rfl
theorem gw_2718 : (Cond.code ⟨"RelayHallModel", "gone", "(LRelayHallModel$Channel;)V"⟩ prog_14_method_37_code 3 none) ∈ lw_G := x_gw (inT_11 _ (List.mem_of_getElem? (i := 78) rfl)) rfl
theorem gw_2719 : (Cond.methodLink "RelayHallModel" 329 ⟨"RelayHallModel", "cancel", "(LRelayHallModel$Consumer;)V"⟩) ∈ lw_G := x_gw (inT_11 _ (List.mem_of_getElem? (i := 79) rfl)) rfl
theorem gw_2721 : (Cond.instanceMethod ⟨"RelayHallModel", "cancel", "(LRelayHallModel$Consumer;)V"⟩) ∈ lw_G := x_gw (inT_11 _ (List.mem_of_getElem? (i := 81) rfl)) rfl
theorem gw_2722 : (Cond.code ⟨"RelayHallModel", "cancel", "(LRelayHallModel$Consumer;)V"⟩ prog_14_method_41_code 2 none) ∈ lw_G := x_gw (inT_11 _ (List.mem_of_getElem? (i := 82) rfl)) rfl
theorem gw_2723 : (Cond.methodLink "RelayHallModel" 384 ⟨"RelayHallModel", "takeOut", "(LRelayHallModel$Consumer;)V"⟩) ∈ lw_G := x_gw (inT_11 _ (List.mem_of_getElem? (i := 83) rfl)) rfl
theorem gw_2725 : (Cond.instanceMethod ⟨"RelayHallModel", "takeOut", "(LRelayHallModel$Consumer;)V"⟩) ∈ lw_G := x_gw (inT_11 _ (List.mem_of_getElem? (i := 85) rfl)) rfl
theorem gw_2726 : (Cond.code ⟨"RelayHallModel", "takeOut", "(LRelayHallModel$Consumer;)V"⟩ prog_14_method_39_code 4 none) ∈ lw_G := x_gw (inT_11 _ (List.mem_of_getElem? (i := 86) rfl)) rfl
theorem gw_2727 : (Cond.methodLink "RelayHallModel" 393 ⟨"RelayHallModel", "consumersOf", "(LRelayHallModel$Queue;)I"⟩) ∈ lw_G := x_gw (inT_11 _ (List.mem_of_getElem? (i := 87) rfl)) rfl
theorem gw_2729 : (Cond.instanceMethod ⟨"RelayHallModel", "consumersOf", "(LRelayHallModel$Queue;)I"⟩) ∈ lw_G := x_gw (inT_11 _ (List.mem_of_getElem? (i := 89) rfl)) rfl
theorem gw_2730 : (Cond.code ⟨"RelayHallModel", "consumersOf", "(LRelayHallModel$Queue;)I"⟩ prog_14_method_40_code 4 (some .int)) ∈ lw_G := x_gw (inT_11 _ (List.mem_of_getElem? (i := 90) rfl)) rfl
theorem gw_2731 : (Cond.methodLink "RelayHallModel" 312 ⟨"RelayHallModel", "delete", "(LRelayHallModel$Queue;)V"⟩) ∈ lw_G := x_gw (inT_11 _ (List.mem_of_getElem? (i := 91) rfl)) rfl
theorem gw_2733 : (Cond.instanceMethod ⟨"RelayHallModel", "delete", "(LRelayHallModel$Queue;)V"⟩) ∈ lw_G := x_gw (inT_11 _ (List.mem_of_getElem? (i := 93) rfl)) rfl
theorem gw_2734 : (Cond.code ⟨"RelayHallModel", "delete", "(LRelayHallModel$Queue;)V"⟩ prog_14_method_54_code 7 none) ∈ lw_G := x_gw (inT_11 _ (List.mem_of_getElem? (i := 94) rfl)) rfl
theorem gw_2735 : (Cond.methodLink "RelayHallModel" 467 ⟨"RelayHallModel$Queue", "kept", "()Z"⟩) ∈ lw_G := x_gw (inT_11 _ (List.mem_of_getElem? (i := 95) rfl)) rfl
theorem gw_2736 : (Cond.instanceMethod ⟨"RelayHallModel$Queue", "kept", "()Z"⟩) ∈ lw_G := x_gw (inT_11 _ (List.mem_of_getElem? (i := 96) rfl)) rfl
theorem gw_2737 : (Cond.selects "RelayHallModel$Queue" ⟨"RelayHallModel$Queue", "kept", "()Z"⟩ ⟨"RelayHallModel$Queue", "kept", "()Z"⟩) ∈ lw_G := x_gw (inT_11 _ (List.mem_of_getElem? (i := 97) rfl)) rfl
theorem gw_2738 : (Cond.code ⟨"RelayHallModel$Queue", "kept", "()Z"⟩ prog_25_method_2_code 1 (some .boolean)) ∈ lw_G := x_gw (inT_11 _ (List.mem_of_getElem? (i := 98) rfl)) rfl
theorem gw_2739 : (Cond.methodLink "RelayHallModel" 460 ⟨"RelayHallModel", "tell", "(ILRelayHallModel$Exchange;LRelayHallModel$Queue;LRelayHallModel$Binding;LRelayHallModel$Entry;)V"⟩) ∈ lw_G := x_gw (inT_11 _ (List.mem_of_getElem? (i := 99) rfl)) rfl
theorem gw_2741 : (Cond.instanceMethod ⟨"RelayHallModel", "tell", "(ILRelayHallModel$Exchange;LRelayHallModel$Queue;LRelayHallModel$Binding;LRelayHallModel$Entry;)V"⟩) ∈ lw_G := x_gw (inT_11 _ (List.mem_of_getElem? (i := 101) rfl)) rfl
theorem gw_2742 : (Cond.code ⟨"RelayHallModel", "tell", "(ILRelayHallModel$Exchange;LRelayHallModel$Queue;LRelayHallModel$Binding;LRelayHallModel$Entry;)V"⟩ prog_14_method_42_code 8 none) ∈ lw_G := x_gw (inT_11 _ (List.mem_of_getElem? (i := 102) rfl)) rfl
theorem gw_2743 : (Cond.instantiable "RelayHallModel$Fact" 5) ∈ lw_G := x_gw (inT_11 _ (List.mem_of_getElem? (i := 103) rfl)) rfl
theorem gw_2745 : (Cond.instanceMethod ⟨"RelayHallModel$Fact", "<init>", "()V"⟩) ∈ lw_G := x_gw (inT_11 _ (List.mem_of_getElem? (i := 105) rfl)) rfl
theorem gw_2746 : (Cond.code ⟨"RelayHallModel$Fact", "<init>", "()V"⟩ prog_23_method_1_code 1 none) ∈ lw_G := x_gw (inT_11 _ (List.mem_of_getElem? (i := 106) rfl)) rfl
theorem gw_2747 : (Cond.methodLink "RelayHallModel$Fact" 1 ⟨"java/lang/Object", "<init>", "()V"⟩) ∈ lw_G := x_gw (inT_11 _ (List.mem_of_getElem? (i := 107) rfl)) rfl
theorem gw_2748 : (Cond.fieldLink "RelayHallModel" 401 "RelayHallModel$Fact" "kind" "I") ∈ lw_G := x_gw (inT_11 _ (List.mem_of_getElem? (i := 108) rfl)) rfl
theorem gw_2749 : (Cond.fieldLink "RelayHallModel" 404 "RelayHallModel$Fact" "exchange" "LRelayHallModel$Exchange;") ∈ lw_G := x_gw (inT_11 _ (List.mem_of_getElem? (i := 109) rfl)) rfl
theorem gw_2750 : (Cond.fieldLink "RelayHallModel" 408 "RelayHallModel$Fact" "queue" "LRelayHallModel$Queue;") ∈ lw_G := x_gw (inT_11 _ (List.mem_of_getElem? (i := 110) rfl)) rfl
theorem gw_2751 : (Cond.fieldLink "RelayHallModel" 409 "RelayHallModel$Fact" "binding" "LRelayHallModel$Binding;") ∈ lw_G := x_gw (inT_11 _ (List.mem_of_getElem? (i := 111) rfl)) rfl
theorem gw_2752 : (Cond.fieldLink "RelayHallModel" 413 "RelayHallModel$Fact" "entry" "LRelayHallModel$Entry;") ∈ lw_G := x_gw (inT_11 _ (List.mem_of_getElem? (i := 112) rfl)) rfl
theorem gw_2764 : (Cond.methodLink "RelayHallModel" 480 ⟨"RelayHallModel", "bindingsOf", "(LRelayHallModel$Exchange;LRelayHallModel$Queue;)I"⟩) ∈ lw_G := x_gw (inT_11 _ (List.mem_of_getElem? (i := 124) rfl)) rfl
theorem gw_2766 : (Cond.instanceMethod ⟨"RelayHallModel", "bindingsOf", "(LRelayHallModel$Exchange;LRelayHallModel$Queue;)I"⟩) ∈ lw_G := x_gw (inT_11 _ (List.mem_of_getElem? (i := 126) rfl)) rfl
theorem gw_2767 : (Cond.code ⟨"RelayHallModel", "bindingsOf", "(LRelayHallModel$Exchange;LRelayHallModel$Queue;)I"⟩ prog_14_method_51_code 5 (some .int)) ∈ lw_G := x_gw (inT_11 _ (List.mem_of_getElem? (i := 127) rfl)) rfl
theorem gw_2768 : (Cond.methodLink "RelayHallModel" 464 ⟨"RelayHallModel", "takeBinding", "(I)V"⟩) ∈ lw_G := x_gw (inT_11 _ (List.mem_of_getElem? (i := 128) rfl)) rfl
theorem gw_2770 : (Cond.instanceMethod ⟨"RelayHallModel", "takeBinding", "(I)V"⟩) ∈ lw_G := x_gw (inT_11 _ (List.mem_of_getElem? (i := 130) rfl)) rfl
theorem gw_2771 : (Cond.code ⟨"RelayHallModel", "takeBinding", "(I)V"⟩ prog_14_method_52_code 3 none) ∈ lw_G := x_gw (inT_11 _ (List.mem_of_getElem? (i := 131) rfl)) rfl
theorem gw_2772 : (Cond.methodLink "RelayHallModel" 485 ⟨"RelayHallModel", "delete", "(LRelayHallModel$Exchange;)V"⟩) ∈ lw_G := x_gw (inT_11 _ (List.mem_of_getElem? (i := 132) rfl)) rfl
theorem gw_2774 : (Cond.instanceMethod ⟨"RelayHallModel", "delete", "(LRelayHallModel$Exchange;)V"⟩) ∈ lw_G := x_gw (inT_11 _ (List.mem_of_getElem? (i := 134) rfl)) rfl
theorem gw_2775 : (Cond.code ⟨"RelayHallModel", "delete", "(LRelayHallModel$Exchange;)V"⟩ prog_14_method_53_code 4 none) ∈ lw_G := x_gw (inT_11 _ (List.mem_of_getElem? (i := 135) rfl)) rfl
theorem gw_2776 : (Cond.methodLink "RelayHallModel" 487 ⟨"RelayHallModel", "speaks", "(LRelayHallModel$Channel;)Z"⟩) ∈ lw_G := x_gw (inT_11 _ (List.mem_of_getElem? (i := 136) rfl)) rfl
theorem gw_2777 : (Cond.static ⟨"RelayHallModel", "speaks", "(LRelayHallModel$Channel;)Z"⟩) ∈ lw_G := x_gw (inT_11 _ (List.mem_of_getElem? (i := 137) rfl)) rfl
theorem gw_2778 : (Cond.code ⟨"RelayHallModel", "speaks", "(LRelayHallModel$Channel;)Z"⟩ prog_14_method_30_code 1 (some .boolean)) ∈ lw_G := x_gw (inT_11 _ (List.mem_of_getElem? (i := 138) rfl)) rfl
theorem gw_2779 : (Cond.methodLink "RelayHallModel" 491 ⟨"RelayHallModel", "sendCancel", "(LRelayHallModel$Consumer;)V"⟩) ∈ lw_G := x_gw (inT_11 _ (List.mem_of_getElem? (i := 139) rfl)) rfl
theorem gw_2781 : (Cond.instanceMethod ⟨"RelayHallModel", "sendCancel", "(LRelayHallModel$Consumer;)V"⟩) ∈ lw_G := x_gw (inT_11 _ (List.mem_of_getElem? (i := 141) rfl)) rfl
theorem gw_2782 : (Cond.code ⟨"RelayHallModel", "sendCancel", "(LRelayHallModel$Consumer;)V"⟩ prog_14_method_55_code 2 none) ∈ lw_G := x_gw (inT_11 _ (List.mem_of_getElem? (i := 142) rfl)) rfl
theorem gw_2783 : (Cond.methodLink "RelayHallModel" 496 ⟨"RelayHallModel", "putShort", "([B)V"⟩) ∈ lw_G := x_gw (inT_11 _ (List.mem_of_getElem? (i := 143) rfl)) rfl
theorem gw_2785 : (Cond.instanceMethod ⟨"RelayHallModel", "putShort", "([B)V"⟩) ∈ lw_G := x_gw (inT_11 _ (List.mem_of_getElem? (i := 145) rfl)) rfl
theorem gw_2786 : (Cond.code ⟨"RelayHallModel", "putShort", "([B)V"⟩ prog_14_method_22_code 2 none) ∈ lw_G := x_gw (inT_11 _ (List.mem_of_getElem? (i := 146) rfl)) rfl
theorem gw_2787 : (Cond.methodLink "RelayHallModel" 214 ⟨"RelayHallModel", "putBytes", "([B)V"⟩) ∈ lw_G := x_gw (inT_11 _ (List.mem_of_getElem? (i := 147) rfl)) rfl
theorem gw_2789 : (Cond.instanceMethod ⟨"RelayHallModel", "putBytes", "([B)V"⟩) ∈ lw_G := x_gw (inT_11 _ (List.mem_of_getElem? (i := 149) rfl)) rfl
theorem gw_2790 : (Cond.code ⟨"RelayHallModel", "putBytes", "([B)V"⟩ prog_14_method_21_code 3 none) ∈ lw_G := x_gw (inT_11 _ (List.mem_of_getElem? (i := 150) rfl)) rfl
theorem gw_2791 : (Cond.methodLink "RelayHallModel" 336 ⟨"RelayHallModel", "take", "(LRelayHallModel$Channel;I)LRelayHallModel$Sent;"⟩) ∈ lw_G := x_gw (inT_11 _ (List.mem_of_getElem? (i := 151) rfl)) rfl
theorem gw_2793 : (Cond.instanceMethod ⟨"RelayHallModel", "take", "(LRelayHallModel$Channel;I)LRelayHallModel$Sent;"⟩) ∈ lw_G := x_gw (inT_11 _ (List.mem_of_getElem? (i := 153) rfl)) rfl
theorem gw_2794 : (Cond.code ⟨"RelayHallModel", "take", "(LRelayHallModel$Channel;I)LRelayHallModel$Sent;"⟩ prog_14_method_38_code 5 (some (.object "RelayHallModel$Sent"))) ∈ lw_G := x_gw (inT_11 _ (List.mem_of_getElem? (i := 154) rfl)) rfl
theorem gw_2795 : (Cond.methodLink "RelayHallModel" 346 ⟨"RelayHallModel", "requeue", "(LRelayHallModel$Entry;)V"⟩) ∈ lw_G := x_gw (inT_11 _ (List.mem_of_getElem? (i := 155) rfl)) rfl
theorem gw_2797 : (Cond.instanceMethod ⟨"RelayHallModel", "requeue", "(LRelayHallModel$Entry;)V"⟩) ∈ lw_G := x_gw (inT_11 _ (List.mem_of_getElem? (i := 157) rfl)) rfl
theorem gw_2798 : (Cond.code ⟨"RelayHallModel", "requeue", "(LRelayHallModel$Entry;)V"⟩ prog_14_method_66_code 2 none) ∈ lw_G := x_gw (inT_11 _ (List.mem_of_getElem? (i := 158) rfl)) rfl
theorem gw_2799 : (Cond.methodLink "RelayHallModel" 566 ⟨"RelayHallModel", "shorten", "(LRelayHallModel$Queue;)V"⟩) ∈ lw_G := x_gw (inT_11 _ (List.mem_of_getElem? (i := 159) rfl)) rfl
theorem gw_2801 : (Cond.instanceMethod ⟨"RelayHallModel", "shorten", "(LRelayHallModel$Queue;)V"⟩) ∈ lw_G := x_gw (inT_11 _ (List.mem_of_getElem? (i := 161) rfl)) rfl
theorem gw_2802 : (Cond.code ⟨"RelayHallModel", "shorten", "(LRelayHallModel$Queue;)V"⟩ prog_14_method_64_code 2 none) ∈ lw_G := x_gw (inT_11 _ (List.mem_of_getElem? (i := 162) rfl)) rfl
theorem gw_2803 : (Cond.methodLink "RelayHallModel" 546 ⟨"RelayHallModel", "ready", "(LRelayHallModel$Queue;)I"⟩) ∈ lw_G := x_gw (inT_11 _ (List.mem_of_getElem? (i := 163) rfl)) rfl
theorem gw_2805 : (Cond.instanceMethod ⟨"RelayHallModel", "ready", "(LRelayHallModel$Queue;)I"⟩) ∈ lw_G := x_gw (inT_11 _ (List.mem_of_getElem? (i := 165) rfl)) rfl
theorem gw_2806 : (Cond.code ⟨"RelayHallModel", "ready", "(LRelayHallModel$Queue;)I"⟩ prog_14_method_56_code 4 (some .int)) ∈ lw_G := x_gw (inT_11 _ (List.mem_of_getElem? (i := 166) rfl)) rfl
theorem gw_2807 : (Cond.methodLink "RelayHallModel" 549 ⟨"RelayHallModel", "first", "(LRelayHallModel$Queue;)LRelayHallModel$Entry;"⟩) ∈ lw_G := x_gw (inT_11 _ (List.mem_of_getElem? (i := 167) rfl)) rfl
theorem gw_2809 : (Cond.instanceMethod ⟨"RelayHallModel", "first", "(LRelayHallModel$Queue;)LRelayHallModel$Entry;"⟩) ∈ lw_G := x_gw (inT_11 _ (List.mem_of_getElem? (i := 169) rfl)) rfl
theorem gw_2810 : (Cond.code ⟨"RelayHallModel", "first", "(LRelayHallModel$Queue;)LRelayHallModel$Entry;"⟩ prog_14_method_59_code 4 (some (.object "RelayHallModel$Entry"))) ∈ lw_G := x_gw (inT_11 _ (List.mem_of_getElem? (i := 170) rfl)) rfl
theorem gw_2811 : (Cond.methodLink "RelayHallModel" 507 ⟨"RelayHallModel", "ahead", "(LRelayHallModel$Queue;LRelayHallModel$Entry;LRelayHallModel$Entry;)Z"⟩) ∈ lw_G := x_gw (inT_11 _ (List.mem_of_getElem? (i := 171) rfl)) rfl
theorem gw_2812 : (Cond.static ⟨"RelayHallModel", "ahead", "(LRelayHallModel$Queue;LRelayHallModel$Entry;LRelayHallModel$Entry;)Z"⟩) ∈ lw_G := x_gw (inT_11 _ (List.mem_of_getElem? (i := 172) rfl)) rfl
theorem gw_2813 : (Cond.code ⟨"RelayHallModel", "ahead", "(LRelayHallModel$Queue;LRelayHallModel$Entry;LRelayHallModel$Entry;)Z"⟩ prog_14_method_58_code 5 (some .boolean)) ∈ lw_G := x_gw (inT_11 _ (List.mem_of_getElem? (i := 173) rfl)) rfl
theorem gw_2814 : (Cond.methodLink "RelayHallModel" 503 ⟨"RelayHallModel", "priority", "(LRelayHallModel$Queue;LRelayHallModel$Entry;)I"⟩) ∈ lw_G := x_gw (inT_11 _ (List.mem_of_getElem? (i := 174) rfl)) rfl
theorem gw_2815 : (Cond.static ⟨"RelayHallModel", "priority", "(LRelayHallModel$Queue;LRelayHallModel$Entry;)I"⟩) ∈ lw_G := x_gw (inT_11 _ (List.mem_of_getElem? (i := 175) rfl)) rfl
theorem gw_2816 : (Cond.code ⟨"RelayHallModel", "priority", "(LRelayHallModel$Queue;LRelayHallModel$Entry;)I"⟩ prog_14_method_57_code 2 (some .int)) ∈ lw_G := x_gw (inT_11 _ (List.mem_of_getElem? (i := 176) rfl)) rfl
theorem gw_2817 : (Cond.methodLink "RelayHallModel" 553 ⟨"RelayHallModel", "dies", "(LRelayHallModel$Entry;)V"⟩) ∈ lw_G := x_gw (inT_11 _ (List.mem_of_getElem? (i := 177) rfl)) rfl
theorem gw_2819 : (Cond.instanceMethod ⟨"RelayHallModel", "dies", "(LRelayHallModel$Entry;)V"⟩) ∈ lw_G := x_gw (inT_11 _ (List.mem_of_getElem? (i := 179) rfl)) rfl
theorem gw_2820 : (Cond.code ⟨"RelayHallModel", "dies", "(LRelayHallModel$Entry;)V"⟩ prog_14_method_63_code 4 none) ∈ lw_G := x_gw (inT_11 _ (List.mem_of_getElem? (i := 180) rfl)) rfl
theorem gw_2821 : (Cond.methodLink "RelayHallModel" 518 ⟨"RelayHallModel", "leaves", "(LRelayHallModel$Entry;)V"⟩) ∈ lw_G := x_gw (inT_11 _ (List.mem_of_getElem? (i := 181) rfl)) rfl
theorem gw_2823 : (Cond.instanceMethod ⟨"RelayHallModel", "leaves", "(LRelayHallModel$Entry;)V"⟩) ∈ lw_G := x_gw (inT_11 _ (List.mem_of_getElem? (i := 183) rfl)) rfl
theorem gw_2824 : (Cond.code ⟨"RelayHallModel", "leaves", "(LRelayHallModel$Entry;)V"⟩ prog_14_method_62_code 5 none) ∈ lw_G := x_gw (inT_11 _ (List.mem_of_getElem? (i := 184) rfl)) rfl
theorem gw_2825 : (Cond.methodLink "RelayHallModel" 514 ⟨"RelayHallModel", "recorded", "(LRelayHallModel$Queue;LRelayHallModel$Content;)Z"⟩) ∈ lw_G := x_gw (inT_11 _ (List.mem_of_getElem? (i := 185) rfl)) rfl
theorem gw_2827 : (Cond.instanceMethod ⟨"RelayHallModel", "recorded", "(LRelayHallModel$Queue;LRelayHallModel$Content;)Z"⟩) ∈ lw_G := x_gw (inT_11 _ (List.mem_of_getElem? (i := 187) rfl)) rfl
theorem gw_2828 : (Cond.code ⟨"RelayHallModel", "recorded", "(LRelayHallModel$Queue;LRelayHallModel$Content;)Z"⟩ prog_14_method_61_code 3 (some .boolean)) ∈ lw_G := x_gw (inT_11 _ (List.mem_of_getElem? (i := 188) rfl)) rfl
theorem gw_2829 : (Cond.instantiable "RelayHallModel$Dead" 3) ∈ lw_G := x_gw (inT_11 _ (List.mem_of_getElem? (i := 189) rfl)) rfl
theorem gw_2831 : (Cond.instanceMethod ⟨"RelayHallModel$Dead", "<init>", "()V"⟩) ∈ lw_G := x_gw (inT_11 _ (List.mem_of_getElem? (i := 191) rfl)) rfl
theorem gw_2832 : (Cond.code ⟨"RelayHallModel$Dead", "<init>", "()V"⟩ prog_20_method_1_code 1 none) ∈ lw_G := x_gw (inT_11 _ (List.mem_of_getElem? (i := 192) rfl)) rfl
theorem gw_2833 : (Cond.methodLink "RelayHallModel$Dead" 1 ⟨"java/lang/Object", "<init>", "()V"⟩) ∈ lw_G := x_gw (inT_11 _ (List.mem_of_getElem? (i := 193) rfl)) rfl
theorem gw_2834 : (Cond.fieldLink "RelayHallModel" 534 "RelayHallModel$Dead" "entry" "LRelayHallModel$Entry;") ∈ lw_G := x_gw (inT_11 _ (List.mem_of_getElem? (i := 194) rfl)) rfl
theorem gw_2835 : (Cond.fieldLink "RelayHallModel" 535 "RelayHallModel$Dead" "exchange" "[B") ∈ lw_G := x_gw (inT_11 _ (List.mem_of_getElem? (i := 195) rfl)) rfl
theorem gw_2836 : (Cond.fieldLink "RelayHallModel" 540 "RelayHallModel$Dead" "key" "[B") ∈ lw_G := x_gw (inT_11 _ (List.mem_of_getElem? (i := 196) rfl)) rfl
theorem gw_2844 : (Cond.methodLink "RelayHallModel" 975 ⟨"RelayHallModel", "word", "([BII)I"⟩) ∈ lw_G := x_gw (inT_11 _ (List.mem_of_getElem? (i := 204) rfl)) rfl
theorem gw_2845 : (Cond.static ⟨"RelayHallModel", "word", "([BII)I"⟩) ∈ lw_G := x_gw (inT_11 _ (List.mem_of_getElem? (i := 205) rfl)) rfl
theorem gw_2846 : (Cond.code ⟨"RelayHallModel", "word", "([BII)I"⟩ prog_14_method_146_code 5 (some .int)) ∈ lw_G := x_gw (inT_11 _ (List.mem_of_getElem? (i := 206) rfl)) rfl
theorem gw_2847 : (Cond.methodLink "RelayHallModel" 979 ⟨"RelayHallModel", "noFrame", "(LRelayHallModel$Connection;)V"⟩) ∈ lw_G := x_gw (inT_11 _ (List.mem_of_getElem? (i := 207) rfl)) rfl
theorem gw_2849 : (Cond.instanceMethod ⟨"RelayHallModel", "noFrame", "(LRelayHallModel$Connection;)V"⟩) ∈ lw_G := x_gw (inT_11 _ (List.mem_of_getElem? (i := 209) rfl)) rfl
theorem gw_2850 : (Cond.code ⟨"RelayHallModel", "noFrame", "(LRelayHallModel$Connection;)V"⟩ prog_14_method_143_code 2 none) ∈ lw_G := x_gw (inT_11 _ (List.mem_of_getElem? (i := 210) rfl)) rfl
theorem gw_2851 : (Cond.methodLink "RelayHallModel" 632 ⟨"RelayHallModel", "hard", "(LRelayHallModel$Connection;III)V"⟩) ∈ lw_G := x_gw (inT_11 _ (List.mem_of_getElem? (i := 211) rfl)) rfl
theorem gw_2853 : (Cond.instanceMethod ⟨"RelayHallModel", "hard", "(LRelayHallModel$Connection;III)V"⟩) ∈ lw_G := x_gw (inT_11 _ (List.mem_of_getElem? (i := 213) rfl)) rfl
theorem gw_2854 : (Cond.code ⟨"RelayHallModel", "hard", "(LRelayHallModel$Connection;III)V"⟩ prog_14_method_32_code 5 none) ∈ lw_G := x_gw (inT_11 _ (List.mem_of_getElem? (i := 214) rfl)) rfl
theorem gw_2855 : (Cond.methodLink "RelayHallModel" 279 ⟨"RelayHallModel", "putClose", "(IIIIII)V"⟩) ∈ lw_G := x_gw (inT_11 _ (List.mem_of_getElem? (i := 215) rfl)) rfl
theorem gw_2857 : (Cond.instanceMethod ⟨"RelayHallModel", "putClose", "(IIIIII)V"⟩) ∈ lw_G := x_gw (inT_11 _ (List.mem_of_getElem? (i := 217) rfl)) rfl
theorem gw_2858 : (Cond.code ⟨"RelayHallModel", "putClose", "(IIIIII)V"⟩ prog_14_method_31_code 7 none) ∈ lw_G := x_gw (inT_11 _ (List.mem_of_getElem? (i := 218) rfl)) rfl
theorem gw_2859 : (Cond.methodLink "RelayHallModel" 959 ⟨"RelayHallModel", "dispatch", "()V"⟩) ∈ lw_G := x_gw (inT_11 _ (List.mem_of_getElem? (i := 219) rfl)) rfl
theorem gw_2861 : (Cond.instanceMethod ⟨"RelayHallModel", "dispatch", "()V"⟩) ∈ lw_G := x_gw (inT_11 _ (List.mem_of_getElem? (i := 221) rfl)) rfl
theorem gw_2862 : (Cond.code ⟨"RelayHallModel", "dispatch", "()V"⟩ prog_14_method_86_code 2 none) ∈ lw_G := x_gw (inT_11 _ (List.mem_of_getElem? (i := 222) rfl)) rfl
theorem gw_2863 : (Cond.methodLink "RelayHallModel" 702 ⟨"RelayHallModel", "dispatchOne", "()Z"⟩) ∈ lw_G := x_gw (inT_11 _ (List.mem_of_getElem? (i := 223) rfl)) rfl
theorem gw_2865 : (Cond.instanceMethod ⟨"RelayHallModel", "dispatchOne", "()Z"⟩) ∈ lw_G := x_gw (inT_11 _ (List.mem_of_getElem? (i := 225) rfl)) rfl
theorem gw_2866 : (Cond.code ⟨"RelayHallModel", "dispatchOne", "()Z"⟩ prog_14_method_85_code 3 (some .boolean)) ∈ lw_G := x_gw (inT_11 _ (List.mem_of_getElem? (i := 226) rfl)) rfl
theorem gw_2867 : (Cond.methodLink "RelayHallModel" 691 ⟨"RelayHallModel", "bury", "()V"⟩) ∈ lw_G := x_gw (inT_11 _ (List.mem_of_getElem? (i := 227) rfl)) rfl
theorem gw_2869 : (Cond.instanceMethod ⟨"RelayHallModel", "bury", "()V"⟩) ∈ lw_G := x_gw (inT_11 _ (List.mem_of_getElem? (i := 229) rfl)) rfl
theorem gw_2870 : (Cond.code ⟨"RelayHallModel", "bury", "()V"⟩ prog_14_method_75_code 7 none) ∈ lw_G := x_gw (inT_11 _ (List.mem_of_getElem? (i := 230) rfl)) rfl
theorem gw_2871 : (Cond.methodLink "RelayHallModel" 616 ⟨"RelayHallModel", "exchange", "([B)LRelayHallModel$Exchange;"⟩) ∈ lw_G := x_gw (inT_11 _ (List.mem_of_getElem? (i := 231) rfl)) rfl
theorem gw_2873 : (Cond.instanceMethod ⟨"RelayHallModel", "exchange", "([B)LRelayHallModel$Exchange;"⟩) ∈ lw_G := x_gw (inT_11 _ (List.mem_of_getElem? (i := 233) rfl)) rfl
theorem gw_2874 : (Cond.code ⟨"RelayHallModel", "exchange", "([B)LRelayHallModel$Exchange;"⟩ prog_14_method_49_code 3 (some (.object "RelayHallModel$Exchange"))) ∈ lw_G := x_gw (inT_11 _ (List.mem_of_getElem? (i := 234) rfl)) rfl
theorem gw_2875 : (Cond.methodLink "RelayHallModel" 184 ⟨"RelayHallModel", "same", "([B[B)Z"⟩) ∈ lw_G := x_gw (inT_11 _ (List.mem_of_getElem? (i := 235) rfl)) rfl
theorem gw_2876 : (Cond.static ⟨"RelayHallModel", "same", "([B[B)Z"⟩) ∈ lw_G := x_gw (inT_11 _ (List.mem_of_getElem? (i := 236) rfl)) rfl
theorem gw_2877 : (Cond.code ⟨"RelayHallModel", "same", "([B[B)Z"⟩ prog_14_method_11_code 3 (some .boolean)) ∈ lw_G := x_gw (inT_11 _ (List.mem_of_getElem? (i := 237) rfl)) rfl
theorem gw_2878 : (Cond.methodLink "RelayHallModel" 619 ⟨"RelayHallModel", "full", "()Z"⟩) ∈ lw_G := x_gw (inT_11 _ (List.mem_of_getElem? (i := 238) rfl)) rfl
theorem gw_2880 : (Cond.instanceMethod ⟨"RelayHallModel", "full", "()Z"⟩) ∈ lw_G := x_gw (inT_12 _ (List.mem_of_getElem? (i := 0) rfl)) rfl
theorem gw_2881 : (Cond.code ⟨"RelayHallModel", "full", "()Z"⟩ prog_14_method_60_code 1 (some .boolean)) ∈ lw_G := x_gw (inT_12 _ (List.mem_of_getElem? (i := 1) rfl)) rfl
theorem gw_2882 : (Cond.methodLink "RelayHallModel" 622 ⟨"RelayHallModel", "route", "(LRelayHallModel$Exchange;[BLRelayHallModel$Table;)I"⟩) ∈ lw_G := x_gw (inT_12 _ (List.mem_of_getElem? (i := 2) rfl)) rfl
theorem gw_2884 : (Cond.instanceMethod ⟨"RelayHallModel", "route", "(LRelayHallModel$Exchange;[BLRelayHallModel$Table;)I"⟩) ∈ lw_G := x_gw (inT_12 _ (List.mem_of_getElem? (i := 4) rfl)) rfl
theorem gw_2885 : (Cond.code ⟨"RelayHallModel", "route", "(LRelayHallModel$Exchange;[BLRelayHallModel$Table;)I"⟩ prog_14_method_74_code 11 (some .int)) ∈ lw_G := x_gw (inT_12 _ (List.mem_of_getElem? (i := 5) rfl)) rfl
theorem gw_2886 : (Cond.methodLink "RelayHallModel" 606 ⟨"RelayHallModel", "queue", "([B)LRelayHallModel$Queue;"⟩) ∈ lw_G := x_gw (inT_12 _ (List.mem_of_getElem? (i := 6) rfl)) rfl
theorem gw_2888 : (Cond.instanceMethod ⟨"RelayHallModel", "queue", "([B)LRelayHallModel$Queue;"⟩) ∈ lw_G := x_gw (inT_12 _ (List.mem_of_getElem? (i := 8) rfl)) rfl
theorem gw_2889 : (Cond.code ⟨"RelayHallModel", "queue", "([B)LRelayHallModel$Queue;"⟩ prog_14_method_50_code 3 (some (.object "RelayHallModel$Queue"))) ∈ lw_G := x_gw (inT_12 _ (List.mem_of_getElem? (i := 9) rfl)) rfl
theorem gw_2890 : (Cond.methodLink "RelayHallModel" 609 ⟨"RelayHallModel", "matches", "(LRelayHallModel$Binding;[BLRelayHallModel$Table;)Z"⟩) ∈ lw_G := x_gw (inT_12 _ (List.mem_of_getElem? (i := 10) rfl)) rfl
theorem gw_2892 : (Cond.instanceMethod ⟨"RelayHallModel", "matches", "(LRelayHallModel$Binding;[BLRelayHallModel$Table;)Z"⟩) ∈ lw_G := x_gw (inT_12 _ (List.mem_of_getElem? (i := 12) rfl)) rfl
theorem gw_2893 : (Cond.code ⟨"RelayHallModel", "matches", "(LRelayHallModel$Binding;[BLRelayHallModel$Table;)Z"⟩ prog_14_method_73_code 4 (some .boolean)) ∈ lw_G := x_gw (inT_12 _ (List.mem_of_getElem? (i := 13) rfl)) rfl
theorem gw_2894 : (Cond.methodLink "RelayHallModel" 597 ⟨"RelayHallModel", "topic", "([B[B)Z"⟩) ∈ lw_G := x_gw (inT_12 _ (List.mem_of_getElem? (i := 14) rfl)) rfl
theorem gw_2896 : (Cond.instanceMethod ⟨"RelayHallModel", "topic", "([B[B)Z"⟩) ∈ lw_G := x_gw (inT_12 _ (List.mem_of_getElem? (i := 16) rfl)) rfl
theorem gw_2897 : (Cond.code ⟨"RelayHallModel", "topic", "([B[B)Z"⟩ prog_14_method_71_code 9 (some .boolean)) ∈ lw_G := x_gw (inT_12 _ (List.mem_of_getElem? (i := 17) rfl)) rfl
theorem gw_2898 : (Cond.methodLink "RelayHallModel" 575 ⟨"RelayHallModel", "words", "([B[I[I)I"⟩) ∈ lw_G := x_gw (inT_12 _ (List.mem_of_getElem? (i := 18) rfl)) rfl
theorem gw_2899 : (Cond.static ⟨"RelayHallModel", "words", "([B[I[I)I"⟩) ∈ lw_G := x_gw (inT_12 _ (List.mem_of_getElem? (i := 19) rfl)) rfl
theorem gw_2900 : (Cond.code ⟨"RelayHallModel", "words", "([B[I[I)I"⟩ prog_14_method_68_code 6 (some .int)) ∈ lw_G := x_gw (inT_12 _ (List.mem_of_getElem? (i := 20) rfl)) rfl
theorem gw_2901 : (Cond.methodLink "RelayHallModel" 579 ⟨"RelayHallModel", "isSign", "([BII)Z"⟩) ∈ lw_G := x_gw (inT_12 _ (List.mem_of_getElem? (i := 21) rfl)) rfl
theorem gw_2903 : (Cond.instanceMethod ⟨"RelayHallModel", "isSign", "([BII)Z"⟩) ∈ lw_G := x_gw (inT_12 _ (List.mem_of_getElem? (i := 23) rfl)) rfl
theorem gw_2904 : (Cond.code ⟨"RelayHallModel", "isSign", "([BII)Z"⟩ prog_14_method_69_code 4 (some .boolean)) ∈ lw_G := x_gw (inT_12 _ (List.mem_of_getElem? (i := 24) rfl)) rfl
theorem gw_2905 : (Cond.methodLink "RelayHallModel" 583 ⟨"RelayHallModel", "sameWord", "([BI[BI)Z"⟩) ∈ lw_G := x_gw (inT_12 _ (List.mem_of_getElem? (i := 25) rfl)) rfl
theorem gw_2907 : (Cond.instanceMethod ⟨"RelayHallModel", "sameWord", "([BI[BI)Z"⟩) ∈ lw_G := x_gw (inT_12 _ (List.mem_of_getElem? (i := 27) rfl)) rfl
theorem gw_2908 : (Cond.code ⟨"RelayHallModel", "sameWord", "([BI[BI)Z"⟩ prog_14_method_70_code 6 (some .boolean)) ∈ lw_G := x_gw (inT_12 _ (List.mem_of_getElem? (i := 28) rfl)) rfl
theorem gw_2909 : (Cond.methodLink "RelayHallModel" 603 ⟨"RelayHallModel", "heads", "(LRelayHallModel$Table;LRelayHallModel$Table;)Z"⟩) ∈ lw_G := x_gw (inT_12 _ (List.mem_of_getElem? (i := 29) rfl)) rfl
theorem gw_2910 : (Cond.static ⟨"RelayHallModel", "heads", "(LRelayHallModel$Table;LRelayHallModel$Table;)Z"⟩) ∈ lw_G := x_gw (inT_12 _ (List.mem_of_getElem? (i := 30) rfl)) rfl
theorem gw_2911 : (Cond.code ⟨"RelayHallModel", "heads", "(LRelayHallModel$Table;LRelayHallModel$Table;)Z"⟩ prog_14_method_72_code 7 (some .boolean)) ∈ lw_G := x_gw (inT_12 _ (List.mem_of_getElem? (i := 31) rfl)) rfl
theorem gw_2913 : (Cond.methodLink "RelayHallModel" 589 ⟨"RelayHallModel", "named", "(LRelayHallModel$Table;Ljava/lang/String;)I"⟩) ∈ lw_G := x_gw (inT_12 _ (List.mem_of_getElem? (i := 33) rfl)) rfl
theorem gw_2914 : (Cond.static ⟨"RelayHallModel", "named", "(LRelayHallModel$Table;Ljava/lang/String;)I"⟩) ∈ lw_G := x_gw (inT_12 _ (List.mem_of_getElem? (i := 34) rfl)) rfl
theorem gw_2915 : (Cond.code ⟨"RelayHallModel", "named", "(LRelayHallModel$Table;Ljava/lang/String;)I"⟩ prog_14_method_14_code 3 (some .int)) ∈ lw_G := x_gw (inT_12 _ (List.mem_of_getElem? (i := 35) rfl)) rfl
theorem gw_2916 : (Cond.methodLink "RelayHallModel" 188 ⟨"RelayHallModel", "isText", "([BLjava/lang/String;)Z"⟩) ∈ lw_G := x_gw (inT_12 _ (List.mem_of_getElem? (i := 36) rfl)) rfl
theorem gw_2917 : (Cond.static ⟨"RelayHallModel", "isText", "([BLjava/lang/String;)Z"⟩) ∈ lw_G := x_gw (inT_12 _ (List.mem_of_getElem? (i := 37) rfl)) rfl
theorem gw_2918 : (Cond.code ⟨"RelayHallModel", "isText", "([BLjava/lang/String;)Z"⟩ prog_14_method_12_code 3 (some .boolean)) ∈ lw_G := x_gw (inT_12 _ (List.mem_of_getElem? (i := 38) rfl)) rfl
theorem gw_2919 : (Cond.methodLink "RelayHallModel" 175 ⟨"java/lang/String", "length", "()I"⟩) ∈ lw_G := x_gw (inT_12 _ (List.mem_of_getElem? (i := 39) rfl)) rfl
theorem gw_2920 : (Cond.methodLink "RelayHallModel" 180 ⟨"java/lang/String", "charAt", "(I)C"⟩) ∈ lw_G := x_gw (inT_12 _ (List.mem_of_getElem? (i := 40) rfl)) rfl
theorem gw_2922 : (Cond.methodLink "RelayHallModel" 192 ⟨"RelayHallModel", "find", "(LRelayHallModel$Table;[B)I"⟩) ∈ lw_G := x_gw (inT_12 _ (List.mem_of_getElem? (i := 42) rfl)) rfl
theorem gw_2923 : (Cond.static ⟨"RelayHallModel", "find", "(LRelayHallModel$Table;[B)I"⟩) ∈ lw_G := x_gw (inT_12 _ (List.mem_of_getElem? (i := 43) rfl)) rfl
theorem gw_2924 : (Cond.code ⟨"RelayHallModel", "find", "(LRelayHallModel$Table;[B)I"⟩ prog_14_method_13_code 3 (some .int)) ∈ lw_G := x_gw (inT_12 _ (List.mem_of_getElem? (i := 44) rfl)) rfl
theorem gw_2925 : (Cond.methodLink "RelayHallModel" 196 ⟨"RelayHallModel", "has", "(LRelayHallModel$Table;ILRelayHallModel$Table;)Z"⟩) ∈ lw_G := x_gw (inT_12 _ (List.mem_of_getElem? (i := 45) rfl)) rfl
theorem gw_2926 : (Cond.static ⟨"RelayHallModel", "has", "(LRelayHallModel$Table;ILRelayHallModel$Table;)Z"⟩) ∈ lw_G := x_gw (inT_12 _ (List.mem_of_getElem? (i := 46) rfl)) rfl
theorem gw_2927 : (Cond.code ⟨"RelayHallModel", "has", "(LRelayHallModel$Table;ILRelayHallModel$Table;)Z"⟩ prog_14_method_15_code 4 (some .boolean)) ∈ lw_G := x_gw (inT_12 _ (List.mem_of_getElem? (i := 47) rfl)) rfl
theorem gw_2928 : (Cond.constantLong "RelayHallModel" 626 (-1)) ∈ lw_G := x_gw (inT_12 _ (List.mem_of_getElem? (i := 48) rfl)) rfl
theorem gw_2929 : (Cond.methodLink "RelayHallModel" 628 ⟨"RelayHallModel", "comes", "(LRelayHallModel$Queue;LRelayHallModel$Content;[B[BJI)V"⟩) ∈ lw_G := x_gw (inT_12 _ (List.mem_of_getElem? (i := 49) rfl)) rfl
theorem gw_2931 : (Cond.instanceMethod ⟨"RelayHallModel", "comes", "(LRelayHallModel$Queue;LRelayHallModel$Content;[B[BJI)V"⟩) ∈ lw_G := x_gw (inT_12 _ (List.mem_of_getElem? (i := 51) rfl)) rfl
theorem gw_2932 : (Cond.code ⟨"RelayHallModel", "comes", "(LRelayHallModel$Queue;LRelayHallModel$Content;[B[BJI)V"⟩ prog_14_method_65_code 9 none) ∈ lw_G := x_gw (inT_12 _ (List.mem_of_getElem? (i := 52) rfl)) rfl
theorem gw_2933 : (Cond.instantiable "RelayHallModel$Entry" 10) ∈ lw_G := x_gw (inT_12 _ (List.mem_of_getElem? (i := 53) rfl)) rfl
theorem gw_2935 : (Cond.instanceMethod ⟨"RelayHallModel$Entry", "<init>", "()V"⟩) ∈ lw_G := x_gw (inT_12 _ (List.mem_of_getElem? (i := 55) rfl)) rfl
theorem gw_2936 : (Cond.code ⟨"RelayHallModel$Entry", "<init>", "()V"⟩ prog_21_method_1_code 1 none) ∈ lw_G := x_gw (inT_12 _ (List.mem_of_getElem? (i := 56) rfl)) rfl
theorem gw_2937 : (Cond.methodLink "RelayHallModel$Entry" 1 ⟨"java/lang/Object", "<init>", "()V"⟩) ∈ lw_G := x_gw (inT_12 _ (List.mem_of_getElem? (i := 57) rfl)) rfl
theorem gw_2938 : (Cond.fieldLink "RelayHallModel" 499 "RelayHallModel$Entry" "content" "LRelayHallModel$Content;") ∈ lw_G := x_gw (inT_12 _ (List.mem_of_getElem? (i := 58) rfl)) rfl
theorem gw_2939 : (Cond.fieldLink "RelayHallModel" 557 "RelayHallModel$Entry" "exchange" "[B") ∈ lw_G := x_gw (inT_12 _ (List.mem_of_getElem? (i := 59) rfl)) rfl
theorem gw_2940 : (Cond.fieldLink "RelayHallModel" 558 "RelayHallModel$Entry" "key" "[B") ∈ lw_G := x_gw (inT_12 _ (List.mem_of_getElem? (i := 60) rfl)) rfl
theorem gw_2941 : (Cond.fieldLink "RelayHallModel" 559 "RelayHallModel$Entry" "expiration" "J") ∈ lw_G := x_gw (inT_12 _ (List.mem_of_getElem? (i := 61) rfl)) rfl
theorem gw_2942 : (Cond.fieldLink "RelayHallModel" 431 "RelayHallModel$Entry" "queue" "LRelayHallModel$Queue;") ∈ lw_G := x_gw (inT_12 _ (List.mem_of_getElem? (i := 62) rfl)) rfl
theorem gw_2943 : (Cond.fieldLink "RelayHallModel" 506 "RelayHallModel$Entry" "number" "I") ∈ lw_G := x_gw (inT_12 _ (List.mem_of_getElem? (i := 63) rfl)) rfl
theorem gw_2944 : (Cond.fieldLink "RelayHallModel" 563 "RelayHallModel$Entry" "came" "I") ∈ lw_G := x_gw (inT_12 _ (List.mem_of_getElem? (i := 64) rfl)) rfl
theorem gw_2945 : (Cond.fieldLink "RelayHallModel" 527 "RelayHallModel$Entry" "deaths" "I") ∈ lw_G := x_gw (inT_12 _ (List.mem_of_getElem? (i := 65) rfl)) rfl
theorem gw_2946 : (Cond.fieldLink "RelayHallModel" 476 "RelayHallModel$Entry" "state" "I") ∈ lw_G := x_gw (inT_12 _ (List.mem_of_getElem? (i := 66) rfl)) rfl
theorem gw_2947 : (Cond.fieldLink "RelayHallModel" 569 "RelayHallModel$Entry" "redelivered" "Z") ∈ lw_G := x_gw (inT_12 _ (List.mem_of_getElem? (i := 67) rfl)) rfl
theorem gw_2969 : (Cond.methodLink "RelayHallModel" 694 ⟨"RelayHallModel", "nextOf", "(LRelayHallModel$Queue;)LRelayHallModel$Consumer;"⟩) ∈ lw_G := x_gw (inT_12 _ (List.mem_of_getElem? (i := 89) rfl)) rfl
theorem gw_2971 : (Cond.instanceMethod ⟨"RelayHallModel", "nextOf", "(LRelayHallModel$Queue;)LRelayHallModel$Consumer;"⟩) ∈ lw_G := x_gw (inT_12 _ (List.mem_of_getElem? (i := 91) rfl)) rfl
theorem gw_2972 : (Cond.code ⟨"RelayHallModel", "nextOf", "(LRelayHallModel$Queue;)LRelayHallModel$Consumer;"⟩ prog_14_method_82_code 5 (some (.object "RelayHallModel$Consumer"))) ∈ lw_G := x_gw (inT_12 _ (List.mem_of_getElem? (i := 92) rfl)) rfl
theorem gw_2973 : (Cond.methodLink "RelayHallModel" 681 ⟨"RelayHallModel", "credit", "(LRelayHallModel$Consumer;)Z"⟩) ∈ lw_G := x_gw (inT_12 _ (List.mem_of_getElem? (i := 93) rfl)) rfl
theorem gw_2975 : (Cond.instanceMethod ⟨"RelayHallModel", "credit", "(LRelayHallModel$Consumer;)Z"⟩) ∈ lw_G := x_gw (inT_12 _ (List.mem_of_getElem? (i := 95) rfl)) rfl
theorem gw_2976 : (Cond.code ⟨"RelayHallModel", "credit", "(LRelayHallModel$Consumer;)Z"⟩ prog_14_method_81_code 3 (some .boolean)) ∈ lw_G := x_gw (inT_12 _ (List.mem_of_getElem? (i := 96) rfl)) rfl
theorem gw_2977 : (Cond.methodLink "RelayHallModel" 673 ⟨"RelayHallModel", "unackedOf", "(LRelayHallModel$Channel;LRelayHallModel$Consumer;)I"⟩) ∈ lw_G := x_gw (inT_12 _ (List.mem_of_getElem? (i := 97) rfl)) rfl
theorem gw_2979 : (Cond.instanceMethod ⟨"RelayHallModel", "unackedOf", "(LRelayHallModel$Channel;LRelayHallModel$Consumer;)I"⟩) ∈ lw_G := x_gw (inT_12 _ (List.mem_of_getElem? (i := 99) rfl)) rfl
theorem gw_2980 : (Cond.code ⟨"RelayHallModel", "unackedOf", "(LRelayHallModel$Channel;LRelayHallModel$Consumer;)I"⟩ prog_14_method_80_code 5 (some .int)) ∈ lw_G := x_gw (inT_12 _ (List.mem_of_getElem? (i := 100) rfl)) rfl
theorem gw_2981 : (Cond.methodLink "RelayHallModel" 698 ⟨"RelayHallModel", "deliver", "(LRelayHallModel$Queue;LRelayHallModel$Consumer;)V"⟩) ∈ lw_G := x_gw (inT_12 _ (List.mem_of_getElem? (i := 101) rfl)) rfl
theorem gw_2983 : (Cond.instanceMethod ⟨"RelayHallModel", "deliver", "(LRelayHallModel$Queue;LRelayHallModel$Consumer;)V"⟩) ∈ lw_G := x_gw (inT_12 _ (List.mem_of_getElem? (i := 103) rfl)) rfl
theorem gw_2984 : (Cond.code ⟨"RelayHallModel", "deliver", "(LRelayHallModel$Queue;LRelayHallModel$Consumer;)V"⟩ prog_14_method_84_code 6 none) ∈ lw_G := x_gw (inT_12 _ (List.mem_of_getElem? (i := 104) rfl)) rfl
theorem gw_2985 : (Cond.methodLink "RelayHallModel" 687 ⟨"RelayHallModel", "hand", "(LRelayHallModel$Channel;LRelayHallModel$Entry;LRelayHallModel$Consumer;Z)I"⟩) ∈ lw_G := x_gw (inT_12 _ (List.mem_of_getElem? (i := 105) rfl)) rfl
theorem gw_2987 : (Cond.instanceMethod ⟨"RelayHallModel", "hand", "(LRelayHallModel$Channel;LRelayHallModel$Entry;LRelayHallModel$Consumer;Z)I"⟩) ∈ lw_G := x_gw (inT_12 _ (List.mem_of_getElem? (i := 107) rfl)) rfl
theorem gw_2988 : (Cond.code ⟨"RelayHallModel", "hand", "(LRelayHallModel$Channel;LRelayHallModel$Entry;LRelayHallModel$Consumer;Z)I"⟩ prog_14_method_83_code 7 (some .int)) ∈ lw_G := x_gw (inT_12 _ (List.mem_of_getElem? (i := 108) rfl)) rfl
theorem gw_2989 : (Cond.classLink "RelayHallModel" 341 "RelayHallModel$Sent") ∈ lw_G := x_gw (inT_12 _ (List.mem_of_getElem? (i := 109) rfl)) rfl
theorem gw_2990 : (Cond.instantiable "RelayHallModel$Sent" 4) ∈ lw_G := x_gw (inT_12 _ (List.mem_of_getElem? (i := 110) rfl)) rfl
theorem gw_2992 : (Cond.instanceMethod ⟨"RelayHallModel$Sent", "<init>", "()V"⟩) ∈ lw_G := x_gw (inT_12 _ (List.mem_of_getElem? (i := 112) rfl)) rfl
theorem gw_2993 : (Cond.code ⟨"RelayHallModel$Sent", "<init>", "()V"⟩ prog_26_method_1_code 1 none) ∈ lw_G := x_gw (inT_12 _ (List.mem_of_getElem? (i := 113) rfl)) rfl
theorem gw_2994 : (Cond.methodLink "RelayHallModel$Sent" 1 ⟨"java/lang/Object", "<init>", "()V"⟩) ∈ lw_G := x_gw (inT_12 _ (List.mem_of_getElem? (i := 114) rfl)) rfl
theorem gw_2995 : (Cond.fieldLink "RelayHallModel" 686 "RelayHallModel$Sent" "tag" "I") ∈ lw_G := x_gw (inT_12 _ (List.mem_of_getElem? (i := 115) rfl)) rfl
theorem gw_2996 : (Cond.fieldLink "RelayHallModel" 340 "RelayHallModel$Sent" "entry" "LRelayHallModel$Entry;") ∈ lw_G := x_gw (inT_12 _ (List.mem_of_getElem? (i := 116) rfl)) rfl
theorem gw_2997 : (Cond.fieldLink "RelayHallModel" 660 "RelayHallModel$Sent" "consumer" "LRelayHallModel$Consumer;") ∈ lw_G := x_gw (inT_12 _ (List.mem_of_getElem? (i := 117) rfl)) rfl
theorem gw_2998 : (Cond.fieldLink "RelayHallModel" 831 "RelayHallModel$Sent" "done" "Z") ∈ lw_G := x_gw (inT_12 _ (List.mem_of_getElem? (i := 118) rfl)) rfl
theorem gw_3008 : (Cond.methodLink "RelayHallModel" 649 ⟨"RelayHallModel", "putContent", "(ILRelayHallModel$Content;J)V"⟩) ∈ lw_G := x_gw (inT_12 _ (List.mem_of_getElem? (i := 128) rfl)) rfl
theorem gw_3010 : (Cond.instanceMethod ⟨"RelayHallModel", "putContent", "(ILRelayHallModel$Content;J)V"⟩) ∈ lw_G := x_gw (inT_12 _ (List.mem_of_getElem? (i := 130) rfl)) rfl
theorem gw_3011 : (Cond.code ⟨"RelayHallModel", "putContent", "(ILRelayHallModel$Content;J)V"⟩ prog_14_method_29_code 5 none) ∈ lw_G := x_gw (inT_12 _ (List.mem_of_getElem? (i := 131) rfl)) rfl
theorem gw_3012 : (Cond.methodLink "RelayHallModel" 982 ⟨"RelayHallModel", "readHead", "(I)V"⟩) ∈ lw_G := x_gw (inT_12 _ (List.mem_of_getElem? (i := 132) rfl)) rfl
theorem gw_3014 : (Cond.instanceMethod ⟨"RelayHallModel", "readHead", "(I)V"⟩) ∈ lw_G := x_gw (inT_12 _ (List.mem_of_getElem? (i := 134) rfl)) rfl
theorem gw_3015 : (Cond.code ⟨"RelayHallModel", "readHead", "(I)V"⟩ prog_14_method_139_code 2 none) ∈ lw_G := x_gw (inT_12 _ (List.mem_of_getElem? (i := 135) rfl)) rfl
theorem gw_3016 : (Cond.methodLink "RelayHallModel" 133 ⟨"RelayHallModel", "u16", "()I"⟩) ∈ lw_G := x_gw (inT_12 _ (List.mem_of_getElem? (i := 136) rfl)) rfl
theorem gw_3018 : (Cond.instanceMethod ⟨"RelayHallModel", "u16", "()I"⟩) ∈ lw_G := x_gw (inT_12 _ (List.mem_of_getElem? (i := 138) rfl)) rfl
theorem gw_3019 : (Cond.code ⟨"RelayHallModel", "u16", "()I"⟩ prog_14_method_4_code 2 (some .int)) ∈ lw_G := x_gw (inT_12 _ (List.mem_of_getElem? (i := 139) rfl)) rfl
theorem gw_3020 : (Cond.methodLink "RelayHallModel" 129 ⟨"RelayHallModel", "u8", "()I"⟩) ∈ lw_G := x_gw (inT_12 _ (List.mem_of_getElem? (i := 140) rfl)) rfl
theorem gw_3022 : (Cond.instanceMethod ⟨"RelayHallModel", "u8", "()I"⟩) ∈ lw_G := x_gw (inT_12 _ (List.mem_of_getElem? (i := 142) rfl)) rfl
theorem gw_3023 : (Cond.code ⟨"RelayHallModel", "u8", "()I"⟩ prog_14_method_3_code 2 (some .int)) ∈ lw_G := x_gw (inT_12 _ (List.mem_of_getElem? (i := 143) rfl)) rfl
theorem gw_3024 : (Cond.methodLink "RelayHallModel" 985 ⟨"RelayHallModel", "onOpen", "(LRelayHallModel$Connection;II)V"⟩) ∈ lw_G := x_gw (inT_12 _ (List.mem_of_getElem? (i := 144) rfl)) rfl
theorem gw_3026 : (Cond.instanceMethod ⟨"RelayHallModel", "onOpen", "(LRelayHallModel$Connection;II)V"⟩) ∈ lw_G := x_gw (inT_12 _ (List.mem_of_getElem? (i := 146) rfl)) rfl
theorem gw_3027 : (Cond.code ⟨"RelayHallModel", "onOpen", "(LRelayHallModel$Connection;II)V"⟩ prog_14_method_140_code 5 none) ∈ lw_G := x_gw (inT_12 _ (List.mem_of_getElem? (i := 147) rfl)) rfl
theorem gw_3028 : (Cond.methodLink "RelayHallModel" 714 ⟨"RelayHallModel", "simple", "(LRelayHallModel$Connection;III)V"⟩) ∈ lw_G := x_gw (inT_12 _ (List.mem_of_getElem? (i := 148) rfl)) rfl
theorem gw_3030 : (Cond.instanceMethod ⟨"RelayHallModel", "simple", "(LRelayHallModel$Connection;III)V"⟩) ∈ lw_G := x_gw (inT_12 _ (List.mem_of_getElem? (i := 150) rfl)) rfl
theorem gw_3031 : (Cond.code ⟨"RelayHallModel", "simple", "(LRelayHallModel$Connection;III)V"⟩ prog_14_method_28_code 5 none) ∈ lw_G := x_gw (inT_12 _ (List.mem_of_getElem? (i := 151) rfl)) rfl
theorem gw_3032 : (Cond.methodLink "RelayHallModel" 944 ⟨"RelayHallModel", "onConnection", "(LRelayHallModel$Connection;)V"⟩) ∈ lw_G := x_gw (inT_12 _ (List.mem_of_getElem? (i := 152) rfl)) rfl
theorem gw_3034 : (Cond.instanceMethod ⟨"RelayHallModel", "onConnection", "(LRelayHallModel$Connection;)V"⟩) ∈ lw_G := x_gw (inT_12 _ (List.mem_of_getElem? (i := 154) rfl)) rfl
theorem gw_3035 : (Cond.code ⟨"RelayHallModel", "onConnection", "(LRelayHallModel$Connection;)V"⟩ prog_14_method_131_code 3 none) ∈ lw_G := x_gw (inT_12 _ (List.mem_of_getElem? (i := 155) rfl)) rfl
theorem gw_3036 : (Cond.methodLink "RelayHallModel" 723 ⟨"RelayHallModel", "closeArguments", "()V"⟩) ∈ lw_G := x_gw (inT_12 _ (List.mem_of_getElem? (i := 156) rfl)) rfl
theorem gw_3038 : (Cond.instanceMethod ⟨"RelayHallModel", "closeArguments", "()V"⟩) ∈ lw_G := x_gw (inT_12 _ (List.mem_of_getElem? (i := 158) rfl)) rfl
theorem gw_3039 : (Cond.code ⟨"RelayHallModel", "closeArguments", "()V"⟩ prog_14_method_90_code 1 none) ∈ lw_G := x_gw (inT_12 _ (List.mem_of_getElem? (i := 159) rfl)) rfl
theorem gw_3040 : (Cond.methodLink "RelayHallModel" 156 ⟨"RelayHallModel", "shortText", "()[B"⟩) ∈ lw_G := x_gw (inT_12 _ (List.mem_of_getElem? (i := 160) rfl)) rfl
theorem gw_3042 : (Cond.instanceMethod ⟨"RelayHallModel", "shortText", "()[B"⟩) ∈ lw_G := x_gw (inT_12 _ (List.mem_of_getElem? (i := 162) rfl)) rfl
theorem gw_3043 : (Cond.code ⟨"RelayHallModel", "shortText", "()[B"⟩ prog_14_method_7_code 2 (some (.array .byte))) ∈ lw_G := x_gw (inT_12 _ (List.mem_of_getElem? (i := 163) rfl)) rfl
theorem gw_3044 : (Cond.fieldLink "RelayHallModel" 136 "RelayHallModel" "EMPTY" "[B") ∈ lw_G := x_gw (inT_12 _ (List.mem_of_getElem? (i := 164) rfl)) rfl
theorem gw_3046 : (Cond.methodLink "RelayHallModel" 139 ⟨"RelayHallModel", "bytes", "(I)[B"⟩) ∈ lw_G := x_gw (inT_12 _ (List.mem_of_getElem? (i := 166) rfl)) rfl
theorem gw_3048 : (Cond.instanceMethod ⟨"RelayHallModel", "bytes", "(I)[B"⟩) ∈ lw_G := x_gw (inT_12 _ (List.mem_of_getElem? (i := 168) rfl)) rfl
theorem gw_3049 : (Cond.code ⟨"RelayHallModel", "bytes", "(I)[B"⟩ prog_14_method_6_code 4 (some (.array .byte))) ∈ lw_G := x_gw (inT_12 _ (List.mem_of_getElem? (i := 169) rfl)) rfl
theorem gw_3050 : (Cond.methodLink "RelayHallModel" 720 ⟨"RelayHallModel", "whole", "()Z"⟩) ∈ lw_G := x_gw (inT_12 _ (List.mem_of_getElem? (i := 170) rfl)) rfl
theorem gw_3052 : (Cond.instanceMethod ⟨"RelayHallModel", "whole", "()Z"⟩) ∈ lw_G := x_gw (inT_12 _ (List.mem_of_getElem? (i := 172) rfl)) rfl
theorem gw_3053 : (Cond.code ⟨"RelayHallModel", "whole", "()Z"⟩ prog_14_method_10_code 1 (some .boolean)) ∈ lw_G := x_gw (inT_12 _ (List.mem_of_getElem? (i := 173) rfl)) rfl
theorem gw_3054 : (Cond.methodLink "RelayHallModel" 947 ⟨"RelayHallModel", "onChannel", "(LRelayHallModel$Connection;LRelayHallModel$Channel;)V"⟩) ∈ lw_G := x_gw (inT_12 _ (List.mem_of_getElem? (i := 174) rfl)) rfl
theorem gw_3056 : (Cond.instanceMethod ⟨"RelayHallModel", "onChannel", "(LRelayHallModel$Connection;LRelayHallModel$Channel;)V"⟩) ∈ lw_G := x_gw (inT_12 _ (List.mem_of_getElem? (i := 176) rfl)) rfl
theorem gw_3057 : (Cond.code ⟨"RelayHallModel", "onChannel", "(LRelayHallModel$Connection;LRelayHallModel$Channel;)V"⟩ prog_14_method_132_code 5 none) ∈ lw_G := x_gw (inT_12 _ (List.mem_of_getElem? (i := 177) rfl)) rfl
theorem gw_3058 : (Cond.methodLink "RelayHallModel" 870 ⟨"RelayHallModel", "isTold", "(II)Z"⟩) ∈ lw_G := x_gw (inT_12 _ (List.mem_of_getElem? (i := 178) rfl)) rfl
theorem gw_3060 : (Cond.instanceMethod ⟨"RelayHallModel", "isTold", "(II)Z"⟩) ∈ lw_G := x_gw (inT_12 _ (List.mem_of_getElem? (i := 180) rfl)) rfl
theorem gw_3061 : (Cond.code ⟨"RelayHallModel", "isTold", "(II)Z"⟩ prog_14_method_130_code 3 (some .boolean)) ∈ lw_G := x_gw (inT_12 _ (List.mem_of_getElem? (i := 181) rfl)) rfl
theorem gw_3062 : (Cond.methodLink "RelayHallModel" 717 ⟨"RelayHallModel", "wrong", "(LRelayHallModel$Channel;)Z"⟩) ∈ lw_G := x_gw (inT_12 _ (List.mem_of_getElem? (i := 182) rfl)) rfl
theorem gw_3064 : (Cond.instanceMethod ⟨"RelayHallModel", "wrong", "(LRelayHallModel$Channel;)Z"⟩) ∈ lw_G := x_gw (inT_12 _ (List.mem_of_getElem? (i := 184) rfl)) rfl
theorem gw_3065 : (Cond.code ⟨"RelayHallModel", "wrong", "(LRelayHallModel$Channel;)Z"⟩ prog_14_method_89_code 2 (some .boolean)) ∈ lw_G := x_gw (inT_12 _ (List.mem_of_getElem? (i := 185) rfl)) rfl
theorem gw_3066 : (Cond.methodLink "RelayHallModel" 873 ⟨"RelayHallModel", "opens", "(LRelayHallModel$Channel;)V"⟩) ∈ lw_G := x_gw (inT_12 _ (List.mem_of_getElem? (i := 186) rfl)) rfl
theorem gw_3068 : (Cond.instanceMethod ⟨"RelayHallModel", "opens", "(LRelayHallModel$Channel;)V"⟩) ∈ lw_G := x_gw (inT_12 _ (List.mem_of_getElem? (i := 188) rfl)) rfl
theorem gw_3069 : (Cond.code ⟨"RelayHallModel", "opens", "(LRelayHallModel$Channel;)V"⟩ prog_14_method_87_code 2 none) ∈ lw_G := x_gw (inT_12 _ (List.mem_of_getElem? (i := 189) rfl)) rfl
theorem gw_3070 : (Cond.methodLink "RelayHallModel" 876 ⟨"RelayHallModel", "flow", "(LRelayHallModel$Channel;)V"⟩) ∈ lw_G := x_gw (inT_12 _ (List.mem_of_getElem? (i := 190) rfl)) rfl
theorem gw_3072 : (Cond.instanceMethod ⟨"RelayHallModel", "flow", "(LRelayHallModel$Channel;)V"⟩) ∈ lw_G := x_gw (inT_12 _ (List.mem_of_getElem? (i := 192) rfl)) rfl
theorem gw_3073 : (Cond.code ⟨"RelayHallModel", "flow", "(LRelayHallModel$Channel;)V"⟩ prog_14_method_88_code 3 none) ∈ lw_G := x_gw (inT_12 _ (List.mem_of_getElem? (i := 193) rfl)) rfl
theorem gw_3074 : (Cond.methodLink "RelayHallModel" 879 ⟨"RelayHallModel", "closesChannel", "(LRelayHallModel$Channel;)V"⟩) ∈ lw_G := x_gw (inT_12 _ (List.mem_of_getElem? (i := 194) rfl)) rfl
theorem gw_3076 : (Cond.instanceMethod ⟨"RelayHallModel", "closesChannel", "(LRelayHallModel$Channel;)V"⟩) ∈ lw_G := x_gw (inT_12 _ (List.mem_of_getElem? (i := 196) rfl)) rfl
theorem gw_3077 : (Cond.code ⟨"RelayHallModel", "closesChannel", "(LRelayHallModel$Channel;)V"⟩ prog_14_method_91_code 2 none) ∈ lw_G := x_gw (inT_12 _ (List.mem_of_getElem? (i := 197) rfl)) rfl
theorem gw_3078 : (Cond.methodLink "RelayHallModel" 882 ⟨"RelayHallModel", "declareExchange", "(LRelayHallModel$Channel;)V"⟩) ∈ lw_G := x_gw (inT_12 _ (List.mem_of_getElem? (i := 198) rfl)) rfl
theorem gw_3080 : (Cond.instanceMethod ⟨"RelayHallModel", "declareExchange", "(LRelayHallModel$Channel;)V"⟩) ∈ lw_G := x_gw (inT_12 _ (List.mem_of_getElem? (i := 200) rfl)) rfl
theorem gw_3081 : (Cond.code ⟨"RelayHallModel", "declareExchange", "(LRelayHallModel$Channel;)V"⟩ prog_14_method_94_code 7 none) ∈ lw_G := x_gw (inT_12 _ (List.mem_of_getElem? (i := 201) rfl)) rfl
theorem gw_3082 : (Cond.methodLink "RelayHallModel" 732 ⟨"RelayHallModel", "table", "()LRelayHallModel$Table;"⟩) ∈ lw_G := x_gw (inT_12 _ (List.mem_of_getElem? (i := 202) rfl)) rfl
theorem gw_3084 : (Cond.instanceMethod ⟨"RelayHallModel", "table", "()LRelayHallModel$Table;"⟩) ∈ lw_G := x_gw (inT_12 _ (List.mem_of_getElem? (i := 204) rfl)) rfl
theorem gw_3085 : (Cond.code ⟨"RelayHallModel", "table", "()LRelayHallModel$Table;"⟩ prog_14_method_8_code 6 (some (.object "RelayHallModel$Table"))) ∈ lw_G := x_gw (inT_12 _ (List.mem_of_getElem? (i := 205) rfl)) rfl
theorem gw_3086 : (Cond.classLink "RelayHallModel" 143 "RelayHallModel$Table") ∈ lw_G := x_gw (inT_12 _ (List.mem_of_getElem? (i := 206) rfl)) rfl
theorem gw_3087 : (Cond.instantiable "RelayHallModel$Table" 6) ∈ lw_G := x_gw (inT_12 _ (List.mem_of_getElem? (i := 207) rfl)) rfl
theorem gw_3089 : (Cond.instanceMethod ⟨"RelayHallModel$Table", "<init>", "()V"⟩) ∈ lw_G := x_gw (inT_12 _ (List.mem_of_getElem? (i := 209) rfl)) rfl
theorem gw_3090 : (Cond.code ⟨"RelayHallModel$Table", "<init>", "()V"⟩ prog_27_method_1_code 1 none) ∈ lw_G := x_gw (inT_12 _ (List.mem_of_getElem? (i := 210) rfl)) rfl
theorem gw_3091 : (Cond.methodLink "RelayHallModel$Table" 1 ⟨"java/lang/Object", "<init>", "()V"⟩) ∈ lw_G := x_gw (inT_12 _ (List.mem_of_getElem? (i := 211) rfl)) rfl
theorem gw_3094 : (Cond.fieldLink "RelayHallModel" 149 "RelayHallModel$Table" "many" "I") ∈ lw_G := x_gw (inT_12 _ (List.mem_of_getElem? (i := 214) rfl)) rfl
theorem gw_3095 : (Cond.fieldLink "RelayHallModel$Table" 9 "RelayHallModel$Table" "names" "[[B") ∈ lw_G := x_gw (inT_12 _ (List.mem_of_getElem? (i := 215) rfl)) rfl
theorem gw_3096 : (Cond.fieldLink "RelayHallModel" 152 "RelayHallModel$Table" "names" "[[B") ∈ lw_G := x_gw (inT_12 _ (List.mem_of_getElem? (i := 216) rfl)) rfl
theorem gw_3097 : (Cond.fieldLink "RelayHallModel$Table" 15 "RelayHallModel$Table" "kinds" "[I") ∈ lw_G := x_gw (inT_12 _ (List.mem_of_getElem? (i := 217) rfl)) rfl
theorem gw_3098 : (Cond.fieldLink "RelayHallModel" 160 "RelayHallModel$Table" "kinds" "[I") ∈ lw_G := x_gw (inT_12 _ (List.mem_of_getElem? (i := 218) rfl)) rfl
theorem gw_3099 : (Cond.fieldLink "RelayHallModel$Table" 19 "RelayHallModel$Table" "numbers" "[I") ∈ lw_G := x_gw (inT_12 _ (List.mem_of_getElem? (i := 219) rfl)) rfl
theorem gw_3100 : (Cond.fieldLink "RelayHallModel" 163 "RelayHallModel$Table" "numbers" "[I") ∈ lw_G := x_gw (inT_12 _ (List.mem_of_getElem? (i := 220) rfl)) rfl
theorem gw_3101 : (Cond.fieldLink "RelayHallModel$Table" 22 "RelayHallModel$Table" "texts" "[[B") ∈ lw_G := x_gw (inT_12 _ (List.mem_of_getElem? (i := 221) rfl)) rfl
theorem gw_3102 : (Cond.fieldLink "RelayHallModel" 166 "RelayHallModel$Table" "texts" "[[B") ∈ lw_G := x_gw (inT_12 _ (List.mem_of_getElem? (i := 222) rfl)) rfl
theorem gw_3103 : (Cond.fieldLink "RelayHallModel" 172 "RelayHallModel$Table" "raw" "[B") ∈ lw_G := x_gw (inT_12 _ (List.mem_of_getElem? (i := 223) rfl)) rfl
theorem gw_3117 : (Cond.methodLink "RelayHallModel" 146 ⟨"RelayHallModel", "u32", "()I"⟩) ∈ lw_G := x_gw (inT_12 _ (List.mem_of_getElem? (i := 237) rfl)) rfl
theorem gw_3119 : (Cond.instanceMethod ⟨"RelayHallModel", "u32", "()I"⟩) ∈ lw_G := x_gw (inT_12 _ (List.mem_of_getElem? (i := 239) rfl)) rfl
theorem gw_3120 : (Cond.code ⟨"RelayHallModel", "u32", "()I"⟩ prog_14_method_5_code 2 (some .int)) ∈ lw_G := x_gw (inT_13 _ (List.mem_of_getElem? (i := 0) rfl)) rfl
theorem gw_3121 : (Cond.methodLink "RelayHallModel" 169 ⟨"RelayHallModel", "longText", "()[B"⟩) ∈ lw_G := x_gw (inT_13 _ (List.mem_of_getElem? (i := 1) rfl)) rfl
theorem gw_3123 : (Cond.instanceMethod ⟨"RelayHallModel", "longText", "()[B"⟩) ∈ lw_G := x_gw (inT_13 _ (List.mem_of_getElem? (i := 3) rfl)) rfl
theorem gw_3124 : (Cond.code ⟨"RelayHallModel", "longText", "()[B"⟩ prog_14_method_9_code 2 (some (.array .byte))) ∈ lw_G := x_gw (inT_13 _ (List.mem_of_getElem? (i := 4) rfl)) rfl
theorem gw_3125 : (Cond.methodLink "RelayHallModel" 735 ⟨"RelayHallModel", "soft", "(LRelayHallModel$Channel;I)V"⟩) ∈ lw_G := x_gw (inT_13 _ (List.mem_of_getElem? (i := 5) rfl)) rfl
theorem gw_3127 : (Cond.instanceMethod ⟨"RelayHallModel", "soft", "(LRelayHallModel$Channel;I)V"⟩) ∈ lw_G := x_gw (inT_13 _ (List.mem_of_getElem? (i := 7) rfl)) rfl
theorem gw_3128 : (Cond.code ⟨"RelayHallModel", "soft", "(LRelayHallModel$Channel;I)V"⟩ prog_14_method_33_code 3 none) ∈ lw_G := x_gw (inT_13 _ (List.mem_of_getElem? (i := 8) rfl)) rfl
theorem gw_3129 : (Cond.methodLink "RelayHallModel" 295 ⟨"RelayHallModel", "softAs", "(LRelayHallModel$Channel;III)V"⟩) ∈ lw_G := x_gw (inT_13 _ (List.mem_of_getElem? (i := 9) rfl)) rfl
theorem gw_3131 : (Cond.instanceMethod ⟨"RelayHallModel", "softAs", "(LRelayHallModel$Channel;III)V"⟩) ∈ lw_G := x_gw (inT_13 _ (List.mem_of_getElem? (i := 11) rfl)) rfl
theorem gw_3132 : (Cond.code ⟨"RelayHallModel", "softAs", "(LRelayHallModel$Channel;III)V"⟩ prog_14_method_34_code 5 none) ∈ lw_G := x_gw (inT_13 _ (List.mem_of_getElem? (i := 12) rfl)) rfl
theorem gw_3133 : (Cond.methodLink "RelayHallModel" 738 ⟨"RelayHallModel", "kindOf", "([B)I"⟩) ∈ lw_G := x_gw (inT_13 _ (List.mem_of_getElem? (i := 13) rfl)) rfl
theorem gw_3134 : (Cond.static ⟨"RelayHallModel", "kindOf", "([B)I"⟩) ∈ lw_G := x_gw (inT_13 _ (List.mem_of_getElem? (i := 14) rfl)) rfl
theorem gw_3135 : (Cond.code ⟨"RelayHallModel", "kindOf", "([B)I"⟩ prog_14_method_92_code 1 (some .int)) ∈ lw_G := x_gw (inT_13 _ (List.mem_of_getElem? (i := 15) rfl)) rfl
theorem gw_3140 : (Cond.methodLink "RelayHallModel" 742 ⟨"RelayHallModel", "makesExchange", "(LRelayHallModel$Channel;LRelayHallModel$Exchange;[BIILRelayHallModel$Table;)Z"⟩) ∈ lw_G := x_gw (inT_13 _ (List.mem_of_getElem? (i := 20) rfl)) rfl
theorem gw_3142 : (Cond.instanceMethod ⟨"RelayHallModel", "makesExchange", "(LRelayHallModel$Channel;LRelayHallModel$Exchange;[BIILRelayHallModel$Table;)Z"⟩) ∈ lw_G := x_gw (inT_13 _ (List.mem_of_getElem? (i := 22) rfl)) rfl
theorem gw_3143 : (Cond.code ⟨"RelayHallModel", "makesExchange", "(LRelayHallModel$Channel;LRelayHallModel$Exchange;[BIILRelayHallModel$Table;)Z"⟩ prog_14_method_95_code 9 (some .boolean)) ∈ lw_G := x_gw (inT_13 _ (List.mem_of_getElem? (i := 23) rfl)) rfl
theorem gw_3145 : (Cond.methodLink "RelayHallModel" 748 ⟨"RelayHallModel", "textOf", "(LRelayHallModel$Table;Ljava/lang/String;)[B"⟩) ∈ lw_G := x_gw (inT_13 _ (List.mem_of_getElem? (i := 25) rfl)) rfl
theorem gw_3146 : (Cond.static ⟨"RelayHallModel", "textOf", "(LRelayHallModel$Table;Ljava/lang/String;)[B"⟩) ∈ lw_G := x_gw (inT_13 _ (List.mem_of_getElem? (i := 26) rfl)) rfl
theorem gw_3147 : (Cond.code ⟨"RelayHallModel", "textOf", "(LRelayHallModel$Table;Ljava/lang/String;)[B"⟩ prog_14_method_93_code 3 (some (.array .byte))) ∈ lw_G := x_gw (inT_13 _ (List.mem_of_getElem? (i := 27) rfl)) rfl
theorem gw_3148 : (Cond.instantiable "RelayHallModel$Exchange" 7) ∈ lw_G := x_gw (inT_13 _ (List.mem_of_getElem? (i := 28) rfl)) rfl
theorem gw_3150 : (Cond.instanceMethod ⟨"RelayHallModel$Exchange", "<init>", "()V"⟩) ∈ lw_G := x_gw (inT_13 _ (List.mem_of_getElem? (i := 30) rfl)) rfl
theorem gw_3151 : (Cond.code ⟨"RelayHallModel$Exchange", "<init>", "()V"⟩ prog_22_method_1_code 1 none) ∈ lw_G := x_gw (inT_13 _ (List.mem_of_getElem? (i := 31) rfl)) rfl
theorem gw_3152 : (Cond.methodLink "RelayHallModel$Exchange" 1 ⟨"java/lang/Object", "<init>", "()V"⟩) ∈ lw_G := x_gw (inT_13 _ (List.mem_of_getElem? (i := 32) rfl)) rfl
theorem gw_3153 : (Cond.fieldLink "RelayHallModel" 449 "RelayHallModel$Exchange" "name" "[B") ∈ lw_G := x_gw (inT_13 _ (List.mem_of_getElem? (i := 33) rfl)) rfl
theorem gw_3154 : (Cond.fieldLink "RelayHallModel" 595 "RelayHallModel$Exchange" "kind" "I") ∈ lw_G := x_gw (inT_13 _ (List.mem_of_getElem? (i := 34) rfl)) rfl
theorem gw_3155 : (Cond.fieldLink "RelayHallModel" 457 "RelayHallModel$Exchange" "durable" "Z") ∈ lw_G := x_gw (inT_13 _ (List.mem_of_getElem? (i := 35) rfl)) rfl
theorem gw_3156 : (Cond.fieldLink "RelayHallModel" 484 "RelayHallModel$Exchange" "auto" "Z") ∈ lw_G := x_gw (inT_13 _ (List.mem_of_getElem? (i := 36) rfl)) rfl
theorem gw_3157 : (Cond.fieldLink "RelayHallModel" 752 "RelayHallModel$Exchange" "internal" "Z") ∈ lw_G := x_gw (inT_13 _ (List.mem_of_getElem? (i := 37) rfl)) rfl
theorem gw_3158 : (Cond.fieldLink "RelayHallModel" 456 "RelayHallModel$Exchange" "there" "Z") ∈ lw_G := x_gw (inT_13 _ (List.mem_of_getElem? (i := 38) rfl)) rfl
theorem gw_3159 : (Cond.fieldLink "RelayHallModel" 613 "RelayHallModel$Exchange" "alternate" "[B") ∈ lw_G := x_gw (inT_13 _ (List.mem_of_getElem? (i := 39) rfl)) rfl
theorem gw_3175 : (Cond.methodLink "RelayHallModel" 885 ⟨"RelayHallModel", "deleteExchange", "(LRelayHallModel$Channel;)V"⟩) ∈ lw_G := x_gw (inT_13 _ (List.mem_of_getElem? (i := 55) rfl)) rfl
theorem gw_3177 : (Cond.instanceMethod ⟨"RelayHallModel", "deleteExchange", "(LRelayHallModel$Channel;)V"⟩) ∈ lw_G := x_gw (inT_13 _ (List.mem_of_getElem? (i := 57) rfl)) rfl
theorem gw_3178 : (Cond.code ⟨"RelayHallModel", "deleteExchange", "(LRelayHallModel$Channel;)V"⟩ prog_14_method_96_code 5 none) ∈ lw_G := x_gw (inT_13 _ (List.mem_of_getElem? (i := 58) rfl)) rfl
theorem gw_3179 : (Cond.methodLink "RelayHallModel" 888 ⟨"RelayHallModel", "onQueue", "(LRelayHallModel$Channel;)V"⟩) ∈ lw_G := x_gw (inT_13 _ (List.mem_of_getElem? (i := 59) rfl)) rfl
theorem gw_3181 : (Cond.instanceMethod ⟨"RelayHallModel", "onQueue", "(LRelayHallModel$Channel;)V"⟩) ∈ lw_G := x_gw (inT_13 _ (List.mem_of_getElem? (i := 61) rfl)) rfl
theorem gw_3182 : (Cond.code ⟨"RelayHallModel", "onQueue", "(LRelayHallModel$Channel;)V"⟩ prog_14_method_133_code 2 none) ∈ lw_G := x_gw (inT_13 _ (List.mem_of_getElem? (i := 62) rfl)) rfl
theorem gw_3183 : (Cond.methodLink "RelayHallModel" 899 ⟨"RelayHallModel", "declareQueue", "(LRelayHallModel$Channel;)V"⟩) ∈ lw_G := x_gw (inT_13 _ (List.mem_of_getElem? (i := 63) rfl)) rfl
theorem gw_3185 : (Cond.instanceMethod ⟨"RelayHallModel", "declareQueue", "(LRelayHallModel$Channel;)V"⟩) ∈ lw_G := x_gw (inT_13 _ (List.mem_of_getElem? (i := 65) rfl)) rfl
theorem gw_3186 : (Cond.code ⟨"RelayHallModel", "declareQueue", "(LRelayHallModel$Channel;)V"⟩ prog_14_method_102_code 7 none) ∈ lw_G := x_gw (inT_13 _ (List.mem_of_getElem? (i := 66) rfl)) rfl
theorem gw_3187 : (Cond.methodLink "RelayHallModel" 770 ⟨"RelayHallModel", "passive", "(LRelayHallModel$Channel;LRelayHallModel$Queue;)LRelayHallModel$Queue;"⟩) ∈ lw_G := x_gw (inT_13 _ (List.mem_of_getElem? (i := 67) rfl)) rfl
theorem gw_3189 : (Cond.instanceMethod ⟨"RelayHallModel", "passive", "(LRelayHallModel$Channel;LRelayHallModel$Queue;)LRelayHallModel$Queue;"⟩) ∈ lw_G := x_gw (inT_13 _ (List.mem_of_getElem? (i := 69) rfl)) rfl
theorem gw_3190 : (Cond.code ⟨"RelayHallModel", "passive", "(LRelayHallModel$Channel;LRelayHallModel$Queue;)LRelayHallModel$Queue;"⟩ prog_14_method_103_code 3 (some (.object "RelayHallModel$Queue"))) ∈ lw_G := x_gw (inT_13 _ (List.mem_of_getElem? (i := 70) rfl)) rfl
theorem gw_3191 : (Cond.methodLink "RelayHallModel" 774 ⟨"RelayHallModel", "drafted", "(LRelayHallModel$Table;)LRelayHallModel$Queue;"⟩) ∈ lw_G := x_gw (inT_13 _ (List.mem_of_getElem? (i := 71) rfl)) rfl
theorem gw_3193 : (Cond.instanceMethod ⟨"RelayHallModel", "drafted", "(LRelayHallModel$Table;)LRelayHallModel$Queue;"⟩) ∈ lw_G := x_gw (inT_13 _ (List.mem_of_getElem? (i := 73) rfl)) rfl
theorem gw_3194 : (Cond.code ⟨"RelayHallModel", "drafted", "(LRelayHallModel$Table;)LRelayHallModel$Queue;"⟩ prog_14_method_101_code 3 (some (.object "RelayHallModel$Queue"))) ∈ lw_G := x_gw (inT_13 _ (List.mem_of_getElem? (i := 74) rfl)) rfl
theorem gw_3195 : (Cond.instantiable "RelayHallModel$Queue" 14) ∈ lw_G := x_gw (inT_13 _ (List.mem_of_getElem? (i := 75) rfl)) rfl
theorem gw_3197 : (Cond.instanceMethod ⟨"RelayHallModel$Queue", "<init>", "()V"⟩) ∈ lw_G := x_gw (inT_13 _ (List.mem_of_getElem? (i := 77) rfl)) rfl
theorem gw_3198 : (Cond.code ⟨"RelayHallModel$Queue", "<init>", "()V"⟩ prog_25_method_1_code 1 none) ∈ lw_G := x_gw (inT_13 _ (List.mem_of_getElem? (i := 78) rfl)) rfl
theorem gw_3199 : (Cond.methodLink "RelayHallModel$Queue" 1 ⟨"java/lang/Object", "<init>", "()V"⟩) ∈ lw_G := x_gw (inT_13 _ (List.mem_of_getElem? (i := 79) rfl)) rfl
theorem gw_3200 : (Cond.classLink "RelayHallModel$Queue" 16 "RelayHallModel$Entry") ∈ lw_G := x_gw (inT_13 _ (List.mem_of_getElem? (i := 80) rfl)) rfl
theorem gw_3201 : (Cond.fieldLink "RelayHallModel" 452 "RelayHallModel$Queue" "name" "[B") ∈ lw_G := x_gw (inT_13 _ (List.mem_of_getElem? (i := 81) rfl)) rfl
theorem gw_3202 : (Cond.fieldLink "RelayHallModel$Queue" 22 "RelayHallModel$Queue" "durable" "Z") ∈ lw_G := x_gw (inT_13 _ (List.mem_of_getElem? (i := 82) rfl)) rfl
theorem gw_3203 : (Cond.fieldLink "RelayHallModel" 791 "RelayHallModel$Queue" "durable" "Z") ∈ lw_G := x_gw (inT_13 _ (List.mem_of_getElem? (i := 83) rfl)) rfl
theorem gw_3204 : (Cond.fieldLink "RelayHallModel$Queue" 26 "RelayHallModel$Queue" "exclusive" "Z") ∈ lw_G := x_gw (inT_13 _ (List.mem_of_getElem? (i := 84) rfl)) rfl
theorem gw_3205 : (Cond.fieldLink "RelayHallModel" 306 "RelayHallModel$Queue" "exclusive" "Z") ∈ lw_G := x_gw (inT_13 _ (List.mem_of_getElem? (i := 85) rfl)) rfl
theorem gw_3206 : (Cond.fieldLink "RelayHallModel" 390 "RelayHallModel$Queue" "auto" "Z") ∈ lw_G := x_gw (inT_13 _ (List.mem_of_getElem? (i := 86) rfl)) rfl
theorem gw_3207 : (Cond.fieldLink "RelayHallModel" 387 "RelayHallModel$Queue" "there" "Z") ∈ lw_G := x_gw (inT_13 _ (List.mem_of_getElem? (i := 87) rfl)) rfl
theorem gw_3208 : (Cond.fieldLink "RelayHallModel" 309 "RelayHallModel$Queue" "owner" "LRelayHallModel$Connection;") ∈ lw_G := x_gw (inT_13 _ (List.mem_of_getElem? (i := 88) rfl)) rfl
theorem gw_3209 : (Cond.fieldLink "RelayHallModel$Queue" 7 "RelayHallModel$Queue" "max" "I") ∈ lw_G := x_gw (inT_13 _ (List.mem_of_getElem? (i := 89) rfl)) rfl
theorem gw_3210 : (Cond.fieldLink "RelayHallModel" 543 "RelayHallModel$Queue" "max" "I") ∈ lw_G := x_gw (inT_13 _ (List.mem_of_getElem? (i := 90) rfl)) rfl
theorem gw_3211 : (Cond.fieldLink "RelayHallModel$Queue" 13 "RelayHallModel$Queue" "ttl" "I") ∈ lw_G := x_gw (inT_13 _ (List.mem_of_getElem? (i := 91) rfl)) rfl
theorem gw_3212 : (Cond.fieldLink "RelayHallModel" 572 "RelayHallModel$Queue" "ttl" "I") ∈ lw_G := x_gw (inT_13 _ (List.mem_of_getElem? (i := 92) rfl)) rfl
theorem gw_3213 : (Cond.fieldLink "RelayHallModel" 500 "RelayHallModel$Queue" "pri" "I") ∈ lw_G := x_gw (inT_13 _ (List.mem_of_getElem? (i := 93) rfl)) rfl
theorem gw_3214 : (Cond.fieldLink "RelayHallModel" 524 "RelayHallModel$Queue" "dlx" "[B") ∈ lw_G := x_gw (inT_13 _ (List.mem_of_getElem? (i := 94) rfl)) rfl
theorem gw_3215 : (Cond.fieldLink "RelayHallModel" 537 "RelayHallModel$Queue" "dlk" "[B") ∈ lw_G := x_gw (inT_13 _ (List.mem_of_getElem? (i := 95) rfl)) rfl
theorem gw_3216 : (Cond.fieldLink "RelayHallModel$Queue" 18 "RelayHallModel$Queue" "entries" "[LRelayHallModel$Entry;") ∈ lw_G := x_gw (inT_13 _ (List.mem_of_getElem? (i := 96) rfl)) rfl
theorem gw_3217 : (Cond.fieldLink "RelayHallModel" 473 "RelayHallModel$Queue" "entries" "[LRelayHallModel$Entry;") ∈ lw_G := x_gw (inT_13 _ (List.mem_of_getElem? (i := 97) rfl)) rfl
theorem gw_3218 : (Cond.fieldLink "RelayHallModel" 470 "RelayHallModel$Queue" "long1" "I") ∈ lw_G := x_gw (inT_13 _ (List.mem_of_getElem? (i := 98) rfl)) rfl
theorem gw_3219 : (Cond.fieldLink "RelayHallModel" 678 "RelayHallModel$Queue" "last" "LRelayHallModel$Consumer;") ∈ lw_G := x_gw (inT_13 _ (List.mem_of_getElem? (i := 99) rfl)) rfl
theorem gw_3250 : (Cond.methodLink "RelayHallModel" 758 ⟨"RelayHallModel", "argument", "(LRelayHallModel$Table;Ljava/lang/String;II)I"⟩) ∈ lw_G := x_gw (inT_13 _ (List.mem_of_getElem? (i := 130) rfl)) rfl
theorem gw_3251 : (Cond.static ⟨"RelayHallModel", "argument", "(LRelayHallModel$Table;Ljava/lang/String;II)I"⟩) ∈ lw_G := x_gw (inT_13 _ (List.mem_of_getElem? (i := 131) rfl)) rfl
theorem gw_3252 : (Cond.code ⟨"RelayHallModel", "argument", "(LRelayHallModel$Table;Ljava/lang/String;II)I"⟩ prog_14_method_99_code 5 (some .int)) ∈ lw_G := x_gw (inT_13 _ (List.mem_of_getElem? (i := 132) rfl)) rfl
theorem gw_3257 : (Cond.methodLink "RelayHallModel" 766 ⟨"RelayHallModel", "wrongText", "(LRelayHallModel$Table;Ljava/lang/String;)Z"⟩) ∈ lw_G := x_gw (inT_13 _ (List.mem_of_getElem? (i := 137) rfl)) rfl
theorem gw_3258 : (Cond.static ⟨"RelayHallModel", "wrongText", "(LRelayHallModel$Table;Ljava/lang/String;)Z"⟩) ∈ lw_G := x_gw (inT_13 _ (List.mem_of_getElem? (i := 138) rfl)) rfl
theorem gw_3259 : (Cond.code ⟨"RelayHallModel", "wrongText", "(LRelayHallModel$Table;Ljava/lang/String;)Z"⟩ prog_14_method_100_code 3 (some .boolean)) ∈ lw_G := x_gw (inT_13 _ (List.mem_of_getElem? (i := 139) rfl)) rfl
theorem gw_3260 : (Cond.methodLink "RelayHallModel" 778 ⟨"RelayHallModel", "declared", "(LRelayHallModel$Channel;[BILRelayHallModel$Queue;)LRelayHallModel$Queue;"⟩) ∈ lw_G := x_gw (inT_13 _ (List.mem_of_getElem? (i := 140) rfl)) rfl
theorem gw_3262 : (Cond.instanceMethod ⟨"RelayHallModel", "declared", "(LRelayHallModel$Channel;[BILRelayHallModel$Queue;)LRelayHallModel$Queue;"⟩) ∈ lw_G := x_gw (inT_13 _ (List.mem_of_getElem? (i := 142) rfl)) rfl
theorem gw_3263 : (Cond.code ⟨"RelayHallModel", "declared", "(LRelayHallModel$Channel;[BILRelayHallModel$Queue;)LRelayHallModel$Queue;"⟩ prog_14_method_104_code 12 (some (.object "RelayHallModel$Queue"))) ∈ lw_G := x_gw (inT_13 _ (List.mem_of_getElem? (i := 143) rfl)) rfl
theorem gw_3265 : (Cond.methodLink "RelayHallModel" 787 ⟨"RelayHallModel", "numbered", "(Ljava/lang/String;I)[B"⟩) ∈ lw_G := x_gw (inT_13 _ (List.mem_of_getElem? (i := 145) rfl)) rfl
theorem gw_3266 : (Cond.static ⟨"RelayHallModel", "numbered", "(Ljava/lang/String;I)[B"⟩) ∈ lw_G := x_gw (inT_13 _ (List.mem_of_getElem? (i := 146) rfl)) rfl
theorem gw_3267 : (Cond.code ⟨"RelayHallModel", "numbered", "(Ljava/lang/String;I)[B"⟩ prog_14_method_98_code 6 (some (.array .byte))) ∈ lw_G := x_gw (inT_13 _ (List.mem_of_getElem? (i := 147) rfl)) rfl
theorem gw_3268 : (Cond.methodLink "RelayHallModel" 902 ⟨"RelayHallModel", "bind", "(LRelayHallModel$Channel;Z)V"⟩) ∈ lw_G := x_gw (inT_13 _ (List.mem_of_getElem? (i := 148) rfl)) rfl
theorem gw_3270 : (Cond.instanceMethod ⟨"RelayHallModel", "bind", "(LRelayHallModel$Channel;Z)V"⟩) ∈ lw_G := x_gw (inT_13 _ (List.mem_of_getElem? (i := 150) rfl)) rfl
theorem gw_3271 : (Cond.code ⟨"RelayHallModel", "bind", "(LRelayHallModel$Channel;Z)V"⟩ prog_14_method_107_code 11 none) ∈ lw_G := x_gw (inT_13 _ (List.mem_of_getElem? (i := 151) rfl)) rfl
theorem gw_3272 : (Cond.methodLink "RelayHallModel" 795 ⟨"RelayHallModel", "asked", "(LRelayHallModel$Channel;[B)LRelayHallModel$Queue;"⟩) ∈ lw_G := x_gw (inT_13 _ (List.mem_of_getElem? (i := 152) rfl)) rfl
theorem gw_3274 : (Cond.instanceMethod ⟨"RelayHallModel", "asked", "(LRelayHallModel$Channel;[B)LRelayHallModel$Queue;"⟩) ∈ lw_G := x_gw (inT_13 _ (List.mem_of_getElem? (i := 154) rfl)) rfl
theorem gw_3275 : (Cond.code ⟨"RelayHallModel", "asked", "(LRelayHallModel$Channel;[B)LRelayHallModel$Queue;"⟩ prog_14_method_97_code 4 (some (.object "RelayHallModel$Queue"))) ∈ lw_G := x_gw (inT_13 _ (List.mem_of_getElem? (i := 155) rfl)) rfl
theorem gw_3276 : (Cond.methodLink "RelayHallModel" 799 ⟨"RelayHallModel", "boundTo", "(LRelayHallModel$Channel;[B)LRelayHallModel$Exchange;"⟩) ∈ lw_G := x_gw (inT_13 _ (List.mem_of_getElem? (i := 156) rfl)) rfl
theorem gw_3278 : (Cond.instanceMethod ⟨"RelayHallModel", "boundTo", "(LRelayHallModel$Channel;[B)LRelayHallModel$Exchange;"⟩) ∈ lw_G := x_gw (inT_13 _ (List.mem_of_getElem? (i := 158) rfl)) rfl
theorem gw_3279 : (Cond.code ⟨"RelayHallModel", "boundTo", "(LRelayHallModel$Channel;[B)LRelayHallModel$Exchange;"⟩ prog_14_method_105_code 4 (some (.object "RelayHallModel$Exchange"))) ∈ lw_G := x_gw (inT_13 _ (List.mem_of_getElem? (i := 159) rfl)) rfl
theorem gw_3280 : (Cond.methodLink "RelayHallModel" 803 ⟨"RelayHallModel", "findBinding", "(LRelayHallModel$Queue;LRelayHallModel$Exchange;[BLRelayHallModel$Table;)I"⟩) ∈ lw_G := x_gw (inT_13 _ (List.mem_of_getElem? (i := 160) rfl)) rfl
theorem gw_3282 : (Cond.instanceMethod ⟨"RelayHallModel", "findBinding", "(LRelayHallModel$Queue;LRelayHallModel$Exchange;[BLRelayHallModel$Table;)I"⟩) ∈ lw_G := x_gw (inT_13 _ (List.mem_of_getElem? (i := 162) rfl)) rfl
theorem gw_3283 : (Cond.code ⟨"RelayHallModel", "findBinding", "(LRelayHallModel$Queue;LRelayHallModel$Exchange;[BLRelayHallModel$Table;)I"⟩ prog_14_method_106_code 6 (some .int)) ∈ lw_G := x_gw (inT_13 _ (List.mem_of_getElem? (i := 163) rfl)) rfl
theorem gw_3284 : (Cond.methodLink "RelayHallModel" 792 ⟨"RelayHallModel", "alike", "(LRelayHallModel$Table;LRelayHallModel$Table;)Z"⟩) ∈ lw_G := x_gw (inT_13 _ (List.mem_of_getElem? (i := 164) rfl)) rfl
theorem gw_3285 : (Cond.static ⟨"RelayHallModel", "alike", "(LRelayHallModel$Table;LRelayHallModel$Table;)Z"⟩) ∈ lw_G := x_gw (inT_13 _ (List.mem_of_getElem? (i := 165) rfl)) rfl
theorem gw_3286 : (Cond.code ⟨"RelayHallModel", "alike", "(LRelayHallModel$Table;LRelayHallModel$Table;)Z"⟩ prog_14_method_17_code 2 (some .boolean)) ∈ lw_G := x_gw (inT_13 _ (List.mem_of_getElem? (i := 166) rfl)) rfl
theorem gw_3287 : (Cond.methodLink "RelayHallModel" 200 ⟨"RelayHallModel", "within", "(LRelayHallModel$Table;LRelayHallModel$Table;)Z"⟩) ∈ lw_G := x_gw (inT_13 _ (List.mem_of_getElem? (i := 167) rfl)) rfl
theorem gw_3288 : (Cond.static ⟨"RelayHallModel", "within", "(LRelayHallModel$Table;LRelayHallModel$Table;)Z"⟩) ∈ lw_G := x_gw (inT_13 _ (List.mem_of_getElem? (i := 168) rfl)) rfl
theorem gw_3289 : (Cond.code ⟨"RelayHallModel", "within", "(LRelayHallModel$Table;LRelayHallModel$Table;)Z"⟩ prog_14_method_16_code 3 (some .boolean)) ∈ lw_G := x_gw (inT_13 _ (List.mem_of_getElem? (i := 169) rfl)) rfl
theorem gw_3290 : (Cond.methodLink "RelayHallModel" 807 ⟨"RelayHallModel", "addBinding", "(LRelayHallModel$Queue;LRelayHallModel$Exchange;[BLRelayHallModel$Table;)V"⟩) ∈ lw_G := x_gw (inT_13 _ (List.mem_of_getElem? (i := 170) rfl)) rfl
theorem gw_3292 : (Cond.instanceMethod ⟨"RelayHallModel", "addBinding", "(LRelayHallModel$Queue;LRelayHallModel$Exchange;[BLRelayHallModel$Table;)V"⟩) ∈ lw_G := x_gw (inT_13 _ (List.mem_of_getElem? (i := 172) rfl)) rfl
theorem gw_3293 : (Cond.code ⟨"RelayHallModel", "addBinding", "(LRelayHallModel$Queue;LRelayHallModel$Exchange;[BLRelayHallModel$Table;)V"⟩ prog_14_method_108_code 6 none) ∈ lw_G := x_gw (inT_13 _ (List.mem_of_getElem? (i := 173) rfl)) rfl
theorem gw_3294 : (Cond.instantiable "RelayHallModel$Binding" 4) ∈ lw_G := x_gw (inT_13 _ (List.mem_of_getElem? (i := 174) rfl)) rfl
theorem gw_3296 : (Cond.instanceMethod ⟨"RelayHallModel$Binding", "<init>", "()V"⟩) ∈ lw_G := x_gw (inT_13 _ (List.mem_of_getElem? (i := 176) rfl)) rfl
theorem gw_3297 : (Cond.code ⟨"RelayHallModel$Binding", "<init>", "()V"⟩ prog_15_method_1_code 1 none) ∈ lw_G := x_gw (inT_13 _ (List.mem_of_getElem? (i := 177) rfl)) rfl
theorem gw_3298 : (Cond.methodLink "RelayHallModel$Binding" 1 ⟨"java/lang/Object", "<init>", "()V"⟩) ∈ lw_G := x_gw (inT_13 _ (List.mem_of_getElem? (i := 178) rfl)) rfl
theorem gw_3299 : (Cond.fieldLink "RelayHallModel" 430 "RelayHallModel$Binding" "queue" "LRelayHallModel$Queue;") ∈ lw_G := x_gw (inT_13 _ (List.mem_of_getElem? (i := 179) rfl)) rfl
theorem gw_3300 : (Cond.fieldLink "RelayHallModel" 423 "RelayHallModel$Binding" "exchange" "LRelayHallModel$Exchange;") ∈ lw_G := x_gw (inT_13 _ (List.mem_of_getElem? (i := 180) rfl)) rfl
theorem gw_3301 : (Cond.fieldLink "RelayHallModel" 596 "RelayHallModel$Binding" "key" "[B") ∈ lw_G := x_gw (inT_13 _ (List.mem_of_getElem? (i := 181) rfl)) rfl
theorem gw_3302 : (Cond.fieldLink "RelayHallModel" 600 "RelayHallModel$Binding" "table" "LRelayHallModel$Table;") ∈ lw_G := x_gw (inT_13 _ (List.mem_of_getElem? (i := 182) rfl)) rfl
theorem gw_3312 : (Cond.methodLink "RelayHallModel" 811 ⟨"RelayHallModel", "dropBinding", "(I)V"⟩) ∈ lw_G := x_gw (inT_13 _ (List.mem_of_getElem? (i := 192) rfl)) rfl
theorem gw_3314 : (Cond.instanceMethod ⟨"RelayHallModel", "dropBinding", "(I)V"⟩) ∈ lw_G := x_gw (inT_13 _ (List.mem_of_getElem? (i := 194) rfl)) rfl
theorem gw_3315 : (Cond.code ⟨"RelayHallModel", "dropBinding", "(I)V"⟩ prog_14_method_109_code 3 none) ∈ lw_G := x_gw (inT_13 _ (List.mem_of_getElem? (i := 195) rfl)) rfl
theorem gw_3316 : (Cond.methodLink "RelayHallModel" 905 ⟨"RelayHallModel", "purge", "(LRelayHallModel$Channel;)V"⟩) ∈ lw_G := x_gw (inT_13 _ (List.mem_of_getElem? (i := 196) rfl)) rfl
theorem gw_3318 : (Cond.instanceMethod ⟨"RelayHallModel", "purge", "(LRelayHallModel$Channel;)V"⟩) ∈ lw_G := x_gw (inT_13 _ (List.mem_of_getElem? (i := 198) rfl)) rfl
theorem gw_3319 : (Cond.code ⟨"RelayHallModel", "purge", "(LRelayHallModel$Channel;)V"⟩ prog_14_method_110_code 7 none) ∈ lw_G := x_gw (inT_13 _ (List.mem_of_getElem? (i := 199) rfl)) rfl
theorem gw_3320 : (Cond.methodLink "RelayHallModel" 908 ⟨"RelayHallModel", "deleteQueue", "(LRelayHallModel$Channel;)V"⟩) ∈ lw_G := x_gw (inT_13 _ (List.mem_of_getElem? (i := 200) rfl)) rfl
theorem gw_3322 : (Cond.instanceMethod ⟨"RelayHallModel", "deleteQueue", "(LRelayHallModel$Channel;)V"⟩) ∈ lw_G := x_gw (inT_13 _ (List.mem_of_getElem? (i := 202) rfl)) rfl
theorem gw_3323 : (Cond.code ⟨"RelayHallModel", "deleteQueue", "(LRelayHallModel$Channel;)V"⟩ prog_14_method_111_code 6 none) ∈ lw_G := x_gw (inT_13 _ (List.mem_of_getElem? (i := 203) rfl)) rfl
theorem gw_3324 : (Cond.methodLink "RelayHallModel" 891 ⟨"RelayHallModel", "onMessage", "(LRelayHallModel$Channel;)V"⟩) ∈ lw_G := x_gw (inT_13 _ (List.mem_of_getElem? (i := 204) rfl)) rfl
theorem gw_3326 : (Cond.instanceMethod ⟨"RelayHallModel", "onMessage", "(LRelayHallModel$Channel;)V"⟩) ∈ lw_G := x_gw (inT_13 _ (List.mem_of_getElem? (i := 206) rfl)) rfl
theorem gw_3327 : (Cond.code ⟨"RelayHallModel", "onMessage", "(LRelayHallModel$Channel;)V"⟩ prog_14_method_134_code 2 none) ∈ lw_G := x_gw (inT_13 _ (List.mem_of_getElem? (i := 207) rfl)) rfl
theorem gw_3328 : (Cond.methodLink "RelayHallModel" 911 ⟨"RelayHallModel", "qos", "(LRelayHallModel$Channel;)V"⟩) ∈ lw_G := x_gw (inT_13 _ (List.mem_of_getElem? (i := 208) rfl)) rfl
theorem gw_3330 : (Cond.instanceMethod ⟨"RelayHallModel", "qos", "(LRelayHallModel$Channel;)V"⟩) ∈ lw_G := x_gw (inT_13 _ (List.mem_of_getElem? (i := 210) rfl)) rfl
theorem gw_3331 : (Cond.code ⟨"RelayHallModel", "qos", "(LRelayHallModel$Channel;)V"⟩ prog_14_method_112_code 4 none) ∈ lw_G := x_gw (inT_13 _ (List.mem_of_getElem? (i := 211) rfl)) rfl
theorem gw_3332 : (Cond.methodLink "RelayHallModel" 914 ⟨"RelayHallModel", "consume", "(LRelayHallModel$Channel;)V"⟩) ∈ lw_G := x_gw (inT_13 _ (List.mem_of_getElem? (i := 212) rfl)) rfl
theorem gw_3334 : (Cond.instanceMethod ⟨"RelayHallModel", "consume", "(LRelayHallModel$Channel;)V"⟩) ∈ lw_G := x_gw (inT_13 _ (List.mem_of_getElem? (i := 214) rfl)) rfl
theorem gw_3335 : (Cond.code ⟨"RelayHallModel", "consume", "(LRelayHallModel$Channel;)V"⟩ prog_14_method_115_code 7 none) ∈ lw_G := x_gw (inT_13 _ (List.mem_of_getElem? (i := 215) rfl)) rfl
theorem gw_3336 : (Cond.methodLink "RelayHallModel" 816 ⟨"RelayHallModel", "exclusively", "(LRelayHallModel$Queue;)Z"⟩) ∈ lw_G := x_gw (inT_13 _ (List.mem_of_getElem? (i := 216) rfl)) rfl
theorem gw_3338 : (Cond.instanceMethod ⟨"RelayHallModel", "exclusively", "(LRelayHallModel$Queue;)Z"⟩) ∈ lw_G := x_gw (inT_13 _ (List.mem_of_getElem? (i := 218) rfl)) rfl
theorem gw_3339 : (Cond.code ⟨"RelayHallModel", "exclusively", "(LRelayHallModel$Queue;)Z"⟩ prog_14_method_114_code 3 (some .boolean)) ∈ lw_G := x_gw (inT_13 _ (List.mem_of_getElem? (i := 219) rfl)) rfl
theorem gw_3340 : (Cond.methodLink "RelayHallModel" 820 ⟨"RelayHallModel", "consumer", "(LRelayHallModel$Channel;[B)LRelayHallModel$Consumer;"⟩) ∈ lw_G := x_gw (inT_13 _ (List.mem_of_getElem? (i := 220) rfl)) rfl
theorem gw_3342 : (Cond.instanceMethod ⟨"RelayHallModel", "consumer", "(LRelayHallModel$Channel;[B)LRelayHallModel$Consumer;"⟩) ∈ lw_G := x_gw (inT_13 _ (List.mem_of_getElem? (i := 222) rfl)) rfl
theorem gw_3343 : (Cond.code ⟨"RelayHallModel", "consumer", "(LRelayHallModel$Channel;[B)LRelayHallModel$Consumer;"⟩ prog_14_method_113_code 4 (some (.object "RelayHallModel$Consumer"))) ∈ lw_G := x_gw (inT_13 _ (List.mem_of_getElem? (i := 223) rfl)) rfl
theorem gw_3345 : (Cond.instantiable "RelayHallModel$Consumer" 6) ∈ lw_G := x_gw (inT_13 _ (List.mem_of_getElem? (i := 225) rfl)) rfl
theorem gw_3347 : (Cond.instanceMethod ⟨"RelayHallModel$Consumer", "<init>", "()V"⟩) ∈ lw_G := x_gw (inT_13 _ (List.mem_of_getElem? (i := 227) rfl)) rfl
theorem gw_3348 : (Cond.code ⟨"RelayHallModel$Consumer", "<init>", "()V"⟩ prog_18_method_1_code 1 none) ∈ lw_G := x_gw (inT_13 _ (List.mem_of_getElem? (i := 228) rfl)) rfl
theorem gw_3349 : (Cond.methodLink "RelayHallModel$Consumer" 1 ⟨"java/lang/Object", "<init>", "()V"⟩) ∈ lw_G := x_gw (inT_13 _ (List.mem_of_getElem? (i := 229) rfl)) rfl
theorem gw_3350 : (Cond.fieldLink "RelayHallModel" 494 "RelayHallModel$Consumer" "tag" "[B") ∈ lw_G := x_gw (inT_13 _ (List.mem_of_getElem? (i := 230) rfl)) rfl
theorem gw_3351 : (Cond.fieldLink "RelayHallModel" 380 "RelayHallModel$Consumer" "queue" "LRelayHallModel$Queue;") ∈ lw_G := x_gw (inT_13 _ (List.mem_of_getElem? (i := 231) rfl)) rfl
theorem gw_3352 : (Cond.fieldLink "RelayHallModel" 325 "RelayHallModel$Consumer" "channel" "LRelayHallModel$Channel;") ∈ lw_G := x_gw (inT_13 _ (List.mem_of_getElem? (i := 232) rfl)) rfl
theorem gw_3353 : (Cond.fieldLink "RelayHallModel" 667 "RelayHallModel$Consumer" "free" "Z") ∈ lw_G := x_gw (inT_13 _ (List.mem_of_getElem? (i := 233) rfl)) rfl
theorem gw_3354 : (Cond.fieldLink "RelayHallModel" 815 "RelayHallModel$Consumer" "exclusive" "Z") ∈ lw_G := x_gw (inT_13 _ (List.mem_of_getElem? (i := 234) rfl)) rfl
theorem gw_3355 : (Cond.fieldLink "RelayHallModel" 670 "RelayHallModel$Consumer" "limit" "I") ∈ lw_G := x_gw (inT_13 _ (List.mem_of_getElem? (i := 235) rfl)) rfl
theorem gw_3369 : (Cond.methodLink "RelayHallModel" 826 ⟨"RelayHallModel", "sendTag", "(LRelayHallModel$Channel;I[B)V"⟩) ∈ lw_G := x_gw (inT_14 _ (List.mem_of_getElem? (i := 9) rfl)) rfl
theorem gw_3371 : (Cond.instanceMethod ⟨"RelayHallModel", "sendTag", "(LRelayHallModel$Channel;I[B)V"⟩) ∈ lw_G := x_gw (inT_14 _ (List.mem_of_getElem? (i := 11) rfl)) rfl
theorem gw_3372 : (Cond.code ⟨"RelayHallModel", "sendTag", "(LRelayHallModel$Channel;I[B)V"⟩ prog_14_method_116_code 4 none) ∈ lw_G := x_gw (inT_14 _ (List.mem_of_getElem? (i := 12) rfl)) rfl
theorem gw_3373 : (Cond.methodLink "RelayHallModel" 917 ⟨"RelayHallModel", "cancels", "(LRelayHallModel$Channel;)V"⟩) ∈ lw_G := x_gw (inT_14 _ (List.mem_of_getElem? (i := 13) rfl)) rfl
theorem gw_3375 : (Cond.instanceMethod ⟨"RelayHallModel", "cancels", "(LRelayHallModel$Channel;)V"⟩) ∈ lw_G := x_gw (inT_14 _ (List.mem_of_getElem? (i := 15) rfl)) rfl
theorem gw_3376 : (Cond.code ⟨"RelayHallModel", "cancels", "(LRelayHallModel$Channel;)V"⟩ prog_14_method_117_code 5 none) ∈ lw_G := x_gw (inT_14 _ (List.mem_of_getElem? (i := 16) rfl)) rfl
theorem gw_3377 : (Cond.methodLink "RelayHallModel" 920 ⟨"RelayHallModel", "publishes", "(LRelayHallModel$Channel;)V"⟩) ∈ lw_G := x_gw (inT_14 _ (List.mem_of_getElem? (i := 17) rfl)) rfl
theorem gw_3379 : (Cond.instanceMethod ⟨"RelayHallModel", "publishes", "(LRelayHallModel$Channel;)V"⟩) ∈ lw_G := x_gw (inT_14 _ (List.mem_of_getElem? (i := 19) rfl)) rfl
theorem gw_3380 : (Cond.code ⟨"RelayHallModel", "publishes", "(LRelayHallModel$Channel;)V"⟩ prog_14_method_118_code 6 none) ∈ lw_G := x_gw (inT_14 _ (List.mem_of_getElem? (i := 20) rfl)) rfl
theorem gw_3381 : (Cond.classLink "RelayHallModel" 264 "RelayHallModel$Content") ∈ lw_G := x_gw (inT_14 _ (List.mem_of_getElem? (i := 21) rfl)) rfl
theorem gw_3382 : (Cond.instantiable "RelayHallModel$Content" 9) ∈ lw_G := x_gw (inT_14 _ (List.mem_of_getElem? (i := 22) rfl)) rfl
theorem gw_3384 : (Cond.instanceMethod ⟨"RelayHallModel$Content", "<init>", "()V"⟩) ∈ lw_G := x_gw (inT_14 _ (List.mem_of_getElem? (i := 24) rfl)) rfl
theorem gw_3385 : (Cond.code ⟨"RelayHallModel$Content", "<init>", "()V"⟩ prog_19_method_1_code 1 none) ∈ lw_G := x_gw (inT_14 _ (List.mem_of_getElem? (i := 25) rfl)) rfl
theorem gw_3386 : (Cond.methodLink "RelayHallModel$Content" 1 ⟨"java/lang/Object", "<init>", "()V"⟩) ∈ lw_G := x_gw (inT_14 _ (List.mem_of_getElem? (i := 26) rfl)) rfl
theorem gw_3387 : (Cond.constantLong "RelayHallModel$Content" 7 (-1)) ∈ lw_G := x_gw (inT_14 _ (List.mem_of_getElem? (i := 27) rfl)) rfl
theorem gw_3388 : (Cond.fieldLink "RelayHallModel" 636 "RelayHallModel$Content" "exchange" "[B") ∈ lw_G := x_gw (inT_14 _ (List.mem_of_getElem? (i := 28) rfl)) rfl
theorem gw_3389 : (Cond.fieldLink "RelayHallModel" 637 "RelayHallModel$Content" "key" "[B") ∈ lw_G := x_gw (inT_14 _ (List.mem_of_getElem? (i := 29) rfl)) rfl
theorem gw_3390 : (Cond.fieldLink "RelayHallModel" 639 "RelayHallModel$Content" "mandatory" "Z") ∈ lw_G := x_gw (inT_14 _ (List.mem_of_getElem? (i := 30) rfl)) rfl
theorem gw_3391 : (Cond.fieldLink "RelayHallModel" 271 "RelayHallModel$Content" "persistent" "Z") ∈ lw_G := x_gw (inT_14 _ (List.mem_of_getElem? (i := 31) rfl)) rfl
theorem gw_3392 : (Cond.fieldLink "RelayHallModel" 268 "RelayHallModel$Content" "priority" "I") ∈ lw_G := x_gw (inT_14 _ (List.mem_of_getElem? (i := 32) rfl)) rfl
theorem gw_3393 : (Cond.fieldLink "RelayHallModel$Content" 9 "RelayHallModel$Content" "expiration" "J") ∈ lw_G := x_gw (inT_14 _ (List.mem_of_getElem? (i := 33) rfl)) rfl
theorem gw_3394 : (Cond.fieldLink "RelayHallModel" 638 "RelayHallModel$Content" "expiration" "J") ∈ lw_G := x_gw (inT_14 _ (List.mem_of_getElem? (i := 34) rfl)) rfl
theorem gw_3395 : (Cond.fieldLink "RelayHallModel" 274 "RelayHallModel$Content" "headers" "LRelayHallModel$Table;") ∈ lw_G := x_gw (inT_14 _ (List.mem_of_getElem? (i := 35) rfl)) rfl
theorem gw_3396 : (Cond.fieldLink "RelayHallModel" 263 "RelayHallModel$Content" "body" "[B") ∈ lw_G := x_gw (inT_14 _ (List.mem_of_getElem? (i := 36) rfl)) rfl
theorem gw_3397 : (Cond.fieldLink "RelayHallModel" 941 "RelayHallModel$Content" "got" "I") ∈ lw_G := x_gw (inT_14 _ (List.mem_of_getElem? (i := 37) rfl)) rfl
theorem gw_3417 : (Cond.methodLink "RelayHallModel" 923 ⟨"RelayHallModel", "get", "(LRelayHallModel$Channel;)V"⟩) ∈ lw_G := x_gw (inT_14 _ (List.mem_of_getElem? (i := 57) rfl)) rfl
theorem gw_3419 : (Cond.instanceMethod ⟨"RelayHallModel", "get", "(LRelayHallModel$Channel;)V"⟩) ∈ lw_G := x_gw (inT_14 _ (List.mem_of_getElem? (i := 59) rfl)) rfl
theorem gw_3420 : (Cond.code ⟨"RelayHallModel", "get", "(LRelayHallModel$Channel;)V"⟩ prog_14_method_119_code 7 none) ∈ lw_G := x_gw (inT_14 _ (List.mem_of_getElem? (i := 60) rfl)) rfl
theorem gw_3421 : (Cond.methodLink "RelayHallModel" 926 ⟨"RelayHallModel", "recovers", "(LRelayHallModel$Channel;)V"⟩) ∈ lw_G := x_gw (inT_14 _ (List.mem_of_getElem? (i := 61) rfl)) rfl
theorem gw_3423 : (Cond.instanceMethod ⟨"RelayHallModel", "recovers", "(LRelayHallModel$Channel;)V"⟩) ∈ lw_G := x_gw (inT_14 _ (List.mem_of_getElem? (i := 63) rfl)) rfl
theorem gw_3424 : (Cond.code ⟨"RelayHallModel", "recovers", "(LRelayHallModel$Channel;)V"⟩ prog_14_method_126_code 4 none) ∈ lw_G := x_gw (inT_14 _ (List.mem_of_getElem? (i := 64) rfl)) rfl
theorem gw_3425 : (Cond.methodLink "RelayHallModel" 929 ⟨"RelayHallModel", "onTag", "(LRelayHallModel$Channel;)V"⟩) ∈ lw_G := x_gw (inT_14 _ (List.mem_of_getElem? (i := 65) rfl)) rfl
theorem gw_3427 : (Cond.instanceMethod ⟨"RelayHallModel", "onTag", "(LRelayHallModel$Channel;)V"⟩) ∈ lw_G := x_gw (inT_14 _ (List.mem_of_getElem? (i := 67) rfl)) rfl
theorem gw_3428 : (Cond.code ⟨"RelayHallModel", "onTag", "(LRelayHallModel$Channel;)V"⟩ prog_14_method_135_code 4 none) ∈ lw_G := x_gw (inT_14 _ (List.mem_of_getElem? (i := 68) rfl)) rfl
theorem gw_3429 : (Cond.methodLink "RelayHallModel" 932 ⟨"RelayHallModel", "acknowledges", "(LRelayHallModel$Channel;IZI)V"⟩) ∈ lw_G := x_gw (inT_14 _ (List.mem_of_getElem? (i := 69) rfl)) rfl
theorem gw_3431 : (Cond.instanceMethod ⟨"RelayHallModel", "acknowledges", "(LRelayHallModel$Channel;IZI)V"⟩) ∈ lw_G := x_gw (inT_14 _ (List.mem_of_getElem? (i := 71) rfl)) rfl
theorem gw_3432 : (Cond.code ⟨"RelayHallModel", "acknowledges", "(LRelayHallModel$Channel;IZI)V"⟩ prog_14_method_124_code 8 none) ∈ lw_G := x_gw (inT_14 _ (List.mem_of_getElem? (i := 72) rfl)) rfl
theorem gw_3433 : (Cond.methodLink "RelayHallModel" 838 ⟨"RelayHallModel", "told", "(LRelayHallModel$Channel;IZ)[LRelayHallModel$Sent;"⟩) ∈ lw_G := x_gw (inT_14 _ (List.mem_of_getElem? (i := 73) rfl)) rfl
theorem gw_3435 : (Cond.instanceMethod ⟨"RelayHallModel", "told", "(LRelayHallModel$Channel;IZ)[LRelayHallModel$Sent;"⟩) ∈ lw_G := x_gw (inT_14 _ (List.mem_of_getElem? (i := 75) rfl)) rfl
theorem gw_3436 : (Cond.code ⟨"RelayHallModel", "told", "(LRelayHallModel$Channel;IZ)[LRelayHallModel$Sent;"⟩ prog_14_method_122_code 9 (some (.array (.object "RelayHallModel$Sent")))) ∈ lw_G := x_gw (inT_14 _ (List.mem_of_getElem? (i := 76) rfl)) rfl
theorem gw_3437 : (Cond.methodLink "RelayHallModel" 834 ⟨"RelayHallModel", "below", "(II)Z"⟩) ∈ lw_G := x_gw (inT_14 _ (List.mem_of_getElem? (i := 77) rfl)) rfl
theorem gw_3438 : (Cond.static ⟨"RelayHallModel", "below", "(II)Z"⟩) ∈ lw_G := x_gw (inT_14 _ (List.mem_of_getElem? (i := 78) rfl)) rfl
theorem gw_3439 : (Cond.code ⟨"RelayHallModel", "below", "(II)Z"⟩ prog_14_method_123_code 2 (some .boolean)) ∈ lw_G := x_gw (inT_14 _ (List.mem_of_getElem? (i := 79) rfl)) rfl
theorem gw_3440 : (Cond.methodLink "RelayHallModel" 842 ⟨"RelayHallModel", "remove", "(LRelayHallModel$Channel;LRelayHallModel$Sent;)V"⟩) ∈ lw_G := x_gw (inT_14 _ (List.mem_of_getElem? (i := 80) rfl)) rfl
theorem gw_3442 : (Cond.instanceMethod ⟨"RelayHallModel", "remove", "(LRelayHallModel$Channel;LRelayHallModel$Sent;)V"⟩) ∈ lw_G := x_gw (inT_14 _ (List.mem_of_getElem? (i := 82) rfl)) rfl
theorem gw_3443 : (Cond.code ⟨"RelayHallModel", "remove", "(LRelayHallModel$Channel;LRelayHallModel$Sent;)V"⟩ prog_14_method_121_code 4 none) ∈ lw_G := x_gw (inT_14 _ (List.mem_of_getElem? (i := 83) rfl)) rfl
theorem gw_3444 : (Cond.methodLink "RelayHallModel" 846 ⟨"RelayHallModel", "settle", "(LRelayHallModel$Sent;I)V"⟩) ∈ lw_G := x_gw (inT_14 _ (List.mem_of_getElem? (i := 84) rfl)) rfl
theorem gw_3446 : (Cond.instanceMethod ⟨"RelayHallModel", "settle", "(LRelayHallModel$Sent;I)V"⟩) ∈ lw_G := x_gw (inT_14 _ (List.mem_of_getElem? (i := 86) rfl)) rfl
theorem gw_3447 : (Cond.code ⟨"RelayHallModel", "settle", "(LRelayHallModel$Sent;I)V"⟩ prog_14_method_120_code 3 none) ∈ lw_G := x_gw (inT_14 _ (List.mem_of_getElem? (i := 87) rfl)) rfl
theorem gw_3448 : (Cond.methodLink "RelayHallModel" 850 ⟨"RelayHallModel", "keeps", "(LRelayHallModel$Channel;)LRelayHallModel$Kept;"⟩) ∈ lw_G := x_gw (inT_14 _ (List.mem_of_getElem? (i := 88) rfl)) rfl
theorem gw_3450 : (Cond.instanceMethod ⟨"RelayHallModel", "keeps", "(LRelayHallModel$Channel;)LRelayHallModel$Kept;"⟩) ∈ lw_G := x_gw (inT_14 _ (List.mem_of_getElem? (i := 90) rfl)) rfl
theorem gw_3451 : (Cond.code ⟨"RelayHallModel", "keeps", "(LRelayHallModel$Channel;)LRelayHallModel$Kept;"⟩ prog_14_method_125_code 3 (some (.object "RelayHallModel$Kept"))) ∈ lw_G := x_gw (inT_14 _ (List.mem_of_getElem? (i := 91) rfl)) rfl
theorem gw_3452 : (Cond.classLink "RelayHallModel" 854 "RelayHallModel$Kept") ∈ lw_G := x_gw (inT_14 _ (List.mem_of_getElem? (i := 92) rfl)) rfl
theorem gw_3453 : (Cond.instantiable "RelayHallModel$Kept" 3) ∈ lw_G := x_gw (inT_14 _ (List.mem_of_getElem? (i := 93) rfl)) rfl
theorem gw_3455 : (Cond.instanceMethod ⟨"RelayHallModel$Kept", "<init>", "()V"⟩) ∈ lw_G := x_gw (inT_14 _ (List.mem_of_getElem? (i := 95) rfl)) rfl
theorem gw_3456 : (Cond.code ⟨"RelayHallModel$Kept", "<init>", "()V"⟩ prog_24_method_1_code 1 none) ∈ lw_G := x_gw (inT_14 _ (List.mem_of_getElem? (i := 96) rfl)) rfl
theorem gw_3457 : (Cond.methodLink "RelayHallModel$Kept" 1 ⟨"java/lang/Object", "<init>", "()V"⟩) ∈ lw_G := x_gw (inT_14 _ (List.mem_of_getElem? (i := 97) rfl)) rfl
theorem gw_3458 : (Cond.fieldLink "RelayHallModel" 862 "RelayHallModel$Kept" "content" "LRelayHallModel$Content;") ∈ lw_G := x_gw (inT_14 _ (List.mem_of_getElem? (i := 98) rfl)) rfl
theorem gw_3459 : (Cond.fieldLink "RelayHallModel" 853 "RelayHallModel$Kept" "what" "I") ∈ lw_G := x_gw (inT_14 _ (List.mem_of_getElem? (i := 99) rfl)) rfl
theorem gw_3460 : (Cond.fieldLink "RelayHallModel" 858 "RelayHallModel$Kept" "those" "[LRelayHallModel$Sent;") ∈ lw_G := x_gw (inT_14 _ (List.mem_of_getElem? (i := 100) rfl)) rfl
theorem gw_3468 : (Cond.methodLink "RelayHallModel" 894 ⟨"RelayHallModel", "confirms", "(LRelayHallModel$Channel;)V"⟩) ∈ lw_G := x_gw (inT_14 _ (List.mem_of_getElem? (i := 108) rfl)) rfl
theorem gw_3470 : (Cond.instanceMethod ⟨"RelayHallModel", "confirms", "(LRelayHallModel$Channel;)V"⟩) ∈ lw_G := x_gw (inT_14 _ (List.mem_of_getElem? (i := 110) rfl)) rfl
theorem gw_3471 : (Cond.code ⟨"RelayHallModel", "confirms", "(LRelayHallModel$Channel;)V"⟩ prog_14_method_129_code 3 none) ∈ lw_G := x_gw (inT_14 _ (List.mem_of_getElem? (i := 111) rfl)) rfl
theorem gw_3472 : (Cond.methodLink "RelayHallModel" 896 ⟨"RelayHallModel", "transaction", "(LRelayHallModel$Channel;I)V"⟩) ∈ lw_G := x_gw (inT_14 _ (List.mem_of_getElem? (i := 112) rfl)) rfl
theorem gw_3474 : (Cond.instanceMethod ⟨"RelayHallModel", "transaction", "(LRelayHallModel$Channel;I)V"⟩) ∈ lw_G := x_gw (inT_14 _ (List.mem_of_getElem? (i := 114) rfl)) rfl
theorem gw_3475 : (Cond.code ⟨"RelayHallModel", "transaction", "(LRelayHallModel$Channel;I)V"⟩ prog_14_method_128_code 4 none) ∈ lw_G := x_gw (inT_14 _ (List.mem_of_getElem? (i := 115) rfl)) rfl
theorem gw_3476 : (Cond.methodLink "RelayHallModel" 867 ⟨"RelayHallModel", "commits", "(LRelayHallModel$Channel;)V"⟩) ∈ lw_G := x_gw (inT_14 _ (List.mem_of_getElem? (i := 116) rfl)) rfl
theorem gw_3478 : (Cond.instanceMethod ⟨"RelayHallModel", "commits", "(LRelayHallModel$Channel;)V"⟩) ∈ lw_G := x_gw (inT_14 _ (List.mem_of_getElem? (i := 118) rfl)) rfl
theorem gw_3479 : (Cond.code ⟨"RelayHallModel", "commits", "(LRelayHallModel$Channel;)V"⟩ prog_14_method_127_code 6 none) ∈ lw_G := x_gw (inT_14 _ (List.mem_of_getElem? (i := 119) rfl)) rfl
theorem gw_3480 : (Cond.methodLink "RelayHallModel" 863 ⟨"RelayHallModel", "publish", "(LRelayHallModel$Channel;LRelayHallModel$Content;)Z"⟩) ∈ lw_G := x_gw (inT_14 _ (List.mem_of_getElem? (i := 120) rfl)) rfl
theorem gw_3482 : (Cond.instanceMethod ⟨"RelayHallModel", "publish", "(LRelayHallModel$Channel;LRelayHallModel$Content;)Z"⟩) ∈ lw_G := x_gw (inT_14 _ (List.mem_of_getElem? (i := 122) rfl)) rfl
theorem gw_3483 : (Cond.code ⟨"RelayHallModel", "publish", "(LRelayHallModel$Channel;LRelayHallModel$Content;)Z"⟩ prog_14_method_76_code 8 (some .boolean)) ∈ lw_G := x_gw (inT_14 _ (List.mem_of_getElem? (i := 123) rfl)) rfl
theorem gw_3484 : (Cond.methodLink "RelayHallModel" 642 ⟨"RelayHallModel", "sendReturn", "(LRelayHallModel$Channel;LRelayHallModel$Content;)V"⟩) ∈ lw_G := x_gw (inT_14 _ (List.mem_of_getElem? (i := 124) rfl)) rfl
theorem gw_3486 : (Cond.instanceMethod ⟨"RelayHallModel", "sendReturn", "(LRelayHallModel$Channel;LRelayHallModel$Content;)V"⟩) ∈ lw_G := x_gw (inT_14 _ (List.mem_of_getElem? (i := 126) rfl)) rfl
theorem gw_3487 : (Cond.code ⟨"RelayHallModel", "sendReturn", "(LRelayHallModel$Channel;LRelayHallModel$Content;)V"⟩ prog_14_method_77_code 3 none) ∈ lw_G := x_gw (inT_14 _ (List.mem_of_getElem? (i := 127) rfl)) rfl
theorem gw_3488 : (Cond.methodLink "RelayHallModel" 646 ⟨"RelayHallModel", "confirm", "(LRelayHallModel$Channel;Z)V"⟩) ∈ lw_G := x_gw (inT_14 _ (List.mem_of_getElem? (i := 128) rfl)) rfl
theorem gw_3490 : (Cond.instanceMethod ⟨"RelayHallModel", "confirm", "(LRelayHallModel$Channel;Z)V"⟩) ∈ lw_G := x_gw (inT_14 _ (List.mem_of_getElem? (i := 130) rfl)) rfl
theorem gw_3491 : (Cond.code ⟨"RelayHallModel", "confirm", "(LRelayHallModel$Channel;Z)V"⟩ prog_14_method_79_code 5 none) ∈ lw_G := x_gw (inT_14 _ (List.mem_of_getElem? (i := 131) rfl)) rfl
theorem gw_3492 : (Cond.methodLink "RelayHallModel" 653 ⟨"RelayHallModel", "sendConfirm", "(LRelayHallModel$Channel;I)V"⟩) ∈ lw_G := x_gw (inT_14 _ (List.mem_of_getElem? (i := 132) rfl)) rfl
theorem gw_3494 : (Cond.instanceMethod ⟨"RelayHallModel", "sendConfirm", "(LRelayHallModel$Channel;I)V"⟩) ∈ lw_G := x_gw (inT_14 _ (List.mem_of_getElem? (i := 134) rfl)) rfl
theorem gw_3495 : (Cond.code ⟨"RelayHallModel", "sendConfirm", "(LRelayHallModel$Channel;I)V"⟩ prog_14_method_78_code 3 none) ∈ lw_G := x_gw (inT_14 _ (List.mem_of_getElem? (i := 135) rfl)) rfl
theorem gw_3496 : (Cond.methodLink "RelayHallModel" 951 ⟨"RelayHallModel", "header", "(LRelayHallModel$Channel;)V"⟩) ∈ lw_G := x_gw (inT_14 _ (List.mem_of_getElem? (i := 136) rfl)) rfl
theorem gw_3498 : (Cond.instanceMethod ⟨"RelayHallModel", "header", "(LRelayHallModel$Channel;)V"⟩) ∈ lw_G := x_gw (inT_14 _ (List.mem_of_getElem? (i := 138) rfl)) rfl
theorem gw_3499 : (Cond.code ⟨"RelayHallModel", "header", "(LRelayHallModel$Channel;)V"⟩ prog_14_method_137_code 6 none) ∈ lw_G := x_gw (inT_14 _ (List.mem_of_getElem? (i := 139) rfl)) rfl
theorem gw_3500 : (Cond.constantLong "RelayHallModel" 936 (4294967295)) ∈ lw_G := x_gw (inT_14 _ (List.mem_of_getElem? (i := 140) rfl)) rfl
theorem gw_3501 : (Cond.methodLink "RelayHallModel" 938 ⟨"RelayHallModel", "arrived", "(LRelayHallModel$Channel;)V"⟩) ∈ lw_G := x_gw (inT_14 _ (List.mem_of_getElem? (i := 141) rfl)) rfl
theorem gw_3503 : (Cond.instanceMethod ⟨"RelayHallModel", "arrived", "(LRelayHallModel$Channel;)V"⟩) ∈ lw_G := x_gw (inT_14 _ (List.mem_of_getElem? (i := 143) rfl)) rfl
theorem gw_3504 : (Cond.code ⟨"RelayHallModel", "arrived", "(LRelayHallModel$Channel;)V"⟩ prog_14_method_136_code 4 none) ∈ lw_G := x_gw (inT_14 _ (List.mem_of_getElem? (i := 144) rfl)) rfl
theorem gw_3505 : (Cond.methodLink "RelayHallModel" 954 ⟨"RelayHallModel", "body", "(LRelayHallModel$Channel;)V"⟩) ∈ lw_G := x_gw (inT_14 _ (List.mem_of_getElem? (i := 145) rfl)) rfl
theorem gw_3507 : (Cond.instanceMethod ⟨"RelayHallModel", "body", "(LRelayHallModel$Channel;)V"⟩) ∈ lw_G := x_gw (inT_14 _ (List.mem_of_getElem? (i := 147) rfl)) rfl
theorem gw_3508 : (Cond.code ⟨"RelayHallModel", "body", "(LRelayHallModel$Channel;)V"⟩ prog_14_method_138_code 4 none) ∈ lw_G := x_gw (inT_14 _ (List.mem_of_getElem? (i := 148) rfl)) rfl
theorem gw_3509 : (Cond.methodLink "RelayHallModel" 989 ⟨"RelayHallModel", "onClosing", "(LRelayHallModel$Connection;I)V"⟩) ∈ lw_G := x_gw (inT_14 _ (List.mem_of_getElem? (i := 149) rfl)) rfl
theorem gw_3511 : (Cond.instanceMethod ⟨"RelayHallModel", "onClosing", "(LRelayHallModel$Connection;I)V"⟩) ∈ lw_G := x_gw (inT_14 _ (List.mem_of_getElem? (i := 151) rfl)) rfl
theorem gw_3512 : (Cond.code ⟨"RelayHallModel", "onClosing", "(LRelayHallModel$Connection;I)V"⟩ prog_14_method_141_code 3 none) ∈ lw_G := x_gw (inT_14 _ (List.mem_of_getElem? (i := 152) rfl)) rfl
theorem gw_3513 : (Cond.methodLink "RelayHallModel" 992 ⟨"RelayHallModel", "onGreeted", "(LRelayHallModel$Connection;II)V"⟩) ∈ lw_G := x_gw (inT_14 _ (List.mem_of_getElem? (i := 153) rfl)) rfl
theorem gw_3515 : (Cond.instanceMethod ⟨"RelayHallModel", "onGreeted", "(LRelayHallModel$Connection;II)V"⟩) ∈ lw_G := x_gw (inT_14 _ (List.mem_of_getElem? (i := 155) rfl)) rfl
theorem gw_3516 : (Cond.code ⟨"RelayHallModel", "onGreeted", "(LRelayHallModel$Connection;II)V"⟩ prog_14_method_142_code 8 none) ∈ lw_G := x_gw (inT_14 _ (List.mem_of_getElem? (i := 156) rfl)) rfl
theorem gw_3517 : (Cond.methodLink "RelayHallLaw" 49 ⟨"RelayHallModel", "cut", "(I)Z"⟩) ∈ lw_G := x_gw (inT_14 _ (List.mem_of_getElem? (i := 157) rfl)) rfl
theorem gw_3518 : (Cond.instanceMethod ⟨"RelayHallModel", "cut", "(I)Z"⟩) ∈ lw_G := x_gw (inT_14 _ (List.mem_of_getElem? (i := 158) rfl)) rfl
theorem gw_3519 : (Cond.selects "RelayHallModel" ⟨"RelayHallModel", "cut", "(I)Z"⟩ ⟨"RelayHallModel", "cut", "(I)Z"⟩) ∈ lw_G := x_gw (inT_14 _ (List.mem_of_getElem? (i := 159) rfl)) rfl
theorem gw_3520 : (Cond.code ⟨"RelayHallModel", "cut", "(I)Z"⟩ prog_14_method_153_code 2 (some .boolean)) ∈ lw_G := x_gw (inT_14 _ (List.mem_of_getElem? (i := 160) rfl)) rfl
theorem gw_3521 : (Cond.methodLink "RelayHallLaw" 53 ⟨"RelayHallModel", "waiting", "(I)I"⟩) ∈ lw_G := x_gw (inT_14 _ (List.mem_of_getElem? (i := 161) rfl)) rfl
theorem gw_3522 : (Cond.instanceMethod ⟨"RelayHallModel", "waiting", "(I)I"⟩) ∈ lw_G := x_gw (inT_14 _ (List.mem_of_getElem? (i := 162) rfl)) rfl
theorem gw_3523 : (Cond.selects "RelayHallModel" ⟨"RelayHallModel", "waiting", "(I)I"⟩ ⟨"RelayHallModel", "waiting", "(I)I"⟩) ∈ lw_G := x_gw (inT_14 _ (List.mem_of_getElem? (i := 163) rfl)) rfl
theorem gw_3524 : (Cond.code ⟨"RelayHallModel", "waiting", "(I)I"⟩ prog_14_method_154_code 2 (some .int)) ∈ lw_G := x_gw (inT_14 _ (List.mem_of_getElem? (i := 164) rfl)) rfl
theorem gw_3525 : (Cond.methodLink "RelayHallLaw" 59 ⟨"RelayHallModel", "read", "(II)J"⟩) ∈ lw_G := x_gw (inT_14 _ (List.mem_of_getElem? (i := 165) rfl)) rfl
theorem gw_3526 : (Cond.instanceMethod ⟨"RelayHallModel", "read", "(II)J"⟩) ∈ lw_G := x_gw (inT_14 _ (List.mem_of_getElem? (i := 166) rfl)) rfl
theorem gw_3527 : (Cond.selects "RelayHallModel" ⟨"RelayHallModel", "read", "(II)J"⟩ ⟨"RelayHallModel", "read", "(II)J"⟩) ∈ lw_G := x_gw (inT_14 _ (List.mem_of_getElem? (i := 167) rfl)) rfl
theorem gw_3528 : (Cond.code ⟨"RelayHallModel", "read", "(II)J"⟩ prog_14_method_155_code 7 (some .long)) ∈ lw_G := x_gw (inT_14 _ (List.mem_of_getElem? (i := 168) rfl)) rfl
theorem gw_3529 : (Cond.methodLink "RelayHallLaw" 67 ⟨"RelayHallModel", "tick", "(I)I"⟩) ∈ lw_G := x_gw (inT_14 _ (List.mem_of_getElem? (i := 169) rfl)) rfl
theorem gw_3530 : (Cond.instanceMethod ⟨"RelayHallModel", "tick", "(I)I"⟩) ∈ lw_G := x_gw (inT_14 _ (List.mem_of_getElem? (i := 170) rfl)) rfl
theorem gw_3531 : (Cond.selects "RelayHallModel" ⟨"RelayHallModel", "tick", "(I)I"⟩ ⟨"RelayHallModel", "tick", "(I)I"⟩) ∈ lw_G := x_gw (inT_14 _ (List.mem_of_getElem? (i := 171) rfl)) rfl
theorem gw_3532 : (Cond.code ⟨"RelayHallModel", "tick", "(I)I"⟩ prog_14_method_159_code 4 (some .int)) ∈ lw_G := x_gw (inT_14 _ (List.mem_of_getElem? (i := 172) rfl)) rfl
theorem gw_3533 : (Cond.methodLink "RelayHallModel" 1016 ⟨"RelayHallModel", "secure", "(I)V"⟩) ∈ lw_G := x_gw (inT_14 _ (List.mem_of_getElem? (i := 173) rfl)) rfl
theorem gw_3535 : (Cond.instanceMethod ⟨"RelayHallModel", "secure", "(I)V"⟩) ∈ lw_G := x_gw (inT_14 _ (List.mem_of_getElem? (i := 175) rfl)) rfl
theorem gw_3536 : (Cond.code ⟨"RelayHallModel", "secure", "(I)V"⟩ prog_14_method_48_code 3 none) ∈ lw_G := x_gw (inT_14 _ (List.mem_of_getElem? (i := 176) rfl)) rfl
theorem gw_3537 : (Cond.methodLink "RelayHallModel" 442 ⟨"RelayHallModel", "make", "(LRelayHallModel$Fact;)V"⟩) ∈ lw_G := x_gw (inT_14 _ (List.mem_of_getElem? (i := 177) rfl)) rfl
theorem gw_3539 : (Cond.instanceMethod ⟨"RelayHallModel", "make", "(LRelayHallModel$Fact;)V"⟩) ∈ lw_G := x_gw (inT_14 _ (List.mem_of_getElem? (i := 179) rfl)) rfl
theorem gw_3540 : (Cond.code ⟨"RelayHallModel", "make", "(LRelayHallModel$Fact;)V"⟩ prog_14_method_47_code 3 none) ∈ lw_G := x_gw (inT_14 _ (List.mem_of_getElem? (i := 180) rfl)) rfl
theorem gw_3541 : (Cond.methodLink "RelayHallModel" 435 ⟨"RelayHallModel", "forgetExchange", "(LRelayHallModel$Exchange;)V"⟩) ∈ lw_G := x_gw (inT_14 _ (List.mem_of_getElem? (i := 181) rfl)) rfl
theorem gw_3543 : (Cond.instanceMethod ⟨"RelayHallModel", "forgetExchange", "(LRelayHallModel$Exchange;)V"⟩) ∈ lw_G := x_gw (inT_14 _ (List.mem_of_getElem? (i := 183) rfl)) rfl
theorem gw_3544 : (Cond.code ⟨"RelayHallModel", "forgetExchange", "(LRelayHallModel$Exchange;)V"⟩ prog_14_method_45_code 4 none) ∈ lw_G := x_gw (inT_14 _ (List.mem_of_getElem? (i := 184) rfl)) rfl
theorem gw_3545 : (Cond.methodLink "RelayHallModel" 424 ⟨"RelayHallModel", "takeSafeBinding", "(I)V"⟩) ∈ lw_G := x_gw (inT_14 _ (List.mem_of_getElem? (i := 185) rfl)) rfl
theorem gw_3547 : (Cond.instanceMethod ⟨"RelayHallModel", "takeSafeBinding", "(I)V"⟩) ∈ lw_G := x_gw (inT_14 _ (List.mem_of_getElem? (i := 187) rfl)) rfl
theorem gw_3548 : (Cond.code ⟨"RelayHallModel", "takeSafeBinding", "(I)V"⟩ prog_14_method_43_code 3 none) ∈ lw_G := x_gw (inT_14 _ (List.mem_of_getElem? (i := 188) rfl)) rfl
theorem gw_3549 : (Cond.methodLink "RelayHallModel" 439 ⟨"RelayHallModel", "forgetQueue", "(LRelayHallModel$Queue;)V"⟩) ∈ lw_G := x_gw (inT_14 _ (List.mem_of_getElem? (i := 189) rfl)) rfl
theorem gw_3551 : (Cond.instanceMethod ⟨"RelayHallModel", "forgetQueue", "(LRelayHallModel$Queue;)V"⟩) ∈ lw_G := x_gw (inT_14 _ (List.mem_of_getElem? (i := 191) rfl)) rfl
theorem gw_3552 : (Cond.code ⟨"RelayHallModel", "forgetQueue", "(LRelayHallModel$Queue;)V"⟩ prog_14_method_46_code 4 none) ∈ lw_G := x_gw (inT_14 _ (List.mem_of_getElem? (i := 192) rfl)) rfl
theorem gw_3553 : (Cond.methodLink "RelayHallModel" 432 ⟨"RelayHallModel", "takeSafeEntry", "(I)V"⟩) ∈ lw_G := x_gw (inT_14 _ (List.mem_of_getElem? (i := 193) rfl)) rfl
theorem gw_3555 : (Cond.instanceMethod ⟨"RelayHallModel", "takeSafeEntry", "(I)V"⟩) ∈ lw_G := x_gw (inT_14 _ (List.mem_of_getElem? (i := 195) rfl)) rfl
theorem gw_3556 : (Cond.code ⟨"RelayHallModel", "takeSafeEntry", "(I)V"⟩ prog_14_method_44_code 3 none) ∈ lw_G := x_gw (inT_14 _ (List.mem_of_getElem? (i := 196) rfl)) rfl
theorem gw_3557 : (Cond.methodLink "RelayHallModel" 1019 ⟨"RelayHallModel", "confirmAll", "()V"⟩) ∈ lw_G := x_gw (inT_14 _ (List.mem_of_getElem? (i := 197) rfl)) rfl
theorem gw_3559 : (Cond.instanceMethod ⟨"RelayHallModel", "confirmAll", "()V"⟩) ∈ lw_G := x_gw (inT_14 _ (List.mem_of_getElem? (i := 199) rfl)) rfl
theorem gw_3560 : (Cond.code ⟨"RelayHallModel", "confirmAll", "()V"⟩ prog_14_method_156_code 6 none) ∈ lw_G := x_gw (inT_14 _ (List.mem_of_getElem? (i := 200) rfl)) rfl
theorem gw_3561 : (Cond.methodLink "RelayHallModel" 1022 ⟨"RelayHallModel", "expire", "()V"⟩) ∈ lw_G := x_gw (inT_14 _ (List.mem_of_getElem? (i := 201) rfl)) rfl
theorem gw_3563 : (Cond.instanceMethod ⟨"RelayHallModel", "expire", "()V"⟩) ∈ lw_G := x_gw (inT_14 _ (List.mem_of_getElem? (i := 203) rfl)) rfl
theorem gw_3564 : (Cond.code ⟨"RelayHallModel", "expire", "()V"⟩ prog_14_method_157_code 7 none) ∈ lw_G := x_gw (inT_14 _ (List.mem_of_getElem? (i := 204) rfl)) rfl
theorem gw_3565 : (Cond.methodLink "RelayHallModel" 1012 ⟨"RelayHallModel", "expired", "(LRelayHallModel$Entry;)Z"⟩) ∈ lw_G := x_gw (inT_14 _ (List.mem_of_getElem? (i := 205) rfl)) rfl
theorem gw_3567 : (Cond.instanceMethod ⟨"RelayHallModel", "expired", "(LRelayHallModel$Entry;)Z"⟩) ∈ lw_G := x_gw (inT_14 _ (List.mem_of_getElem? (i := 207) rfl)) rfl
theorem gw_3568 : (Cond.code ⟨"RelayHallModel", "expired", "(LRelayHallModel$Entry;)Z"⟩ prog_14_method_67_code 4 (some .boolean)) ∈ lw_G := x_gw (inT_14 _ (List.mem_of_getElem? (i := 208) rfl)) rfl
theorem gw_3569 : (Cond.methodLink "RelayHallModel" 1025 ⟨"RelayHallModel", "beat", "(LRelayHallModel$Connection;)V"⟩) ∈ lw_G := x_gw (inT_14 _ (List.mem_of_getElem? (i := 209) rfl)) rfl
theorem gw_3571 : (Cond.instanceMethod ⟨"RelayHallModel", "beat", "(LRelayHallModel$Connection;)V"⟩) ∈ lw_G := x_gw (inT_14 _ (List.mem_of_getElem? (i := 211) rfl)) rfl
theorem gw_3572 : (Cond.code ⟨"RelayHallModel", "beat", "(LRelayHallModel$Connection;)V"⟩ prog_14_method_158_code 2 none) ∈ lw_G := x_gw (inT_14 _ (List.mem_of_getElem? (i := 212) rfl)) rfl
theorem gw_3573 : (Cond.methodLink "RelayHallLaw" 70 ⟨"RelayHallModel", "crash", "(I)I"⟩) ∈ lw_G := x_gw (inT_14 _ (List.mem_of_getElem? (i := 213) rfl)) rfl
theorem gw_3574 : (Cond.instanceMethod ⟨"RelayHallModel", "crash", "(I)I"⟩) ∈ lw_G := x_gw (inT_14 _ (List.mem_of_getElem? (i := 214) rfl)) rfl
theorem gw_3575 : (Cond.selects "RelayHallModel" ⟨"RelayHallModel", "crash", "(I)I"⟩ ⟨"RelayHallModel", "crash", "(I)I"⟩) ∈ lw_G := x_gw (inT_14 _ (List.mem_of_getElem? (i := 215) rfl)) rfl
theorem gw_3576 : (Cond.code ⟨"RelayHallModel", "crash", "(I)I"⟩ prog_14_method_162_code 5 (some .int)) ∈ lw_G := x_gw (inT_14 _ (List.mem_of_getElem? (i := 216) rfl)) rfl
theorem gw_3577 : (Cond.methodLink "RelayHallModel" 1031 ⟨"RelayHallModel", "forgetAll", "(LRelayHallModel$Connection;)V"⟩) ∈ lw_G := x_gw (inT_14 _ (List.mem_of_getElem? (i := 217) rfl)) rfl
theorem gw_3579 : (Cond.instanceMethod ⟨"RelayHallModel", "forgetAll", "(LRelayHallModel$Connection;)V"⟩) ∈ lw_G := x_gw (inT_14 _ (List.mem_of_getElem? (i := 219) rfl)) rfl
theorem gw_3580 : (Cond.code ⟨"RelayHallModel", "forgetAll", "(LRelayHallModel$Connection;)V"⟩ prog_14_method_160_code 4 none) ∈ lw_G := x_gw (inT_14 _ (List.mem_of_getElem? (i := 220) rfl)) rfl
theorem gw_3581 : (Cond.methodLink "RelayHallModel" 1034 ⟨"RelayHallModel", "restoreEntry", "(LRelayHallModel$Entry;)V"⟩) ∈ lw_G := x_gw (inT_14 _ (List.mem_of_getElem? (i := 221) rfl)) rfl
theorem gw_3583 : (Cond.instanceMethod ⟨"RelayHallModel", "restoreEntry", "(LRelayHallModel$Entry;)V"⟩) ∈ lw_G := x_gw (inT_14 _ (List.mem_of_getElem? (i := 223) rfl)) rfl
theorem gw_3584 : (Cond.code ⟨"RelayHallModel", "restoreEntry", "(LRelayHallModel$Entry;)V"⟩ prog_14_method_161_code 3 none) ∈ lw_G := x_gw (inT_14 _ (List.mem_of_getElem? (i := 224) rfl)) rfl
theorem gw_3585 : (Cond.methodLink "RelayHallLaw" 75 ⟨"RelayHallModel", "connection", "(II)I"⟩) ∈ lw_G := x_gw (inT_14 _ (List.mem_of_getElem? (i := 225) rfl)) rfl
theorem gw_3586 : (Cond.instanceMethod ⟨"RelayHallModel", "connection", "(II)I"⟩) ∈ lw_G := x_gw (inT_14 _ (List.mem_of_getElem? (i := 226) rfl)) rfl
theorem gw_3587 : (Cond.selects "RelayHallModel" ⟨"RelayHallModel", "connection", "(II)I"⟩ ⟨"RelayHallModel", "connection", "(II)I"⟩) ∈ lw_G := x_gw (inT_14 _ (List.mem_of_getElem? (i := 227) rfl)) rfl
theorem gw_3588 : (Cond.code ⟨"RelayHallModel", "connection", "(II)I"⟩ prog_14_method_163_code 6 (some .int)) ∈ lw_G := x_gw (inT_14 _ (List.mem_of_getElem? (i := 228) rfl)) rfl
theorem gw_3589 : (Cond.methodLink "RelayHallLaw" 80 ⟨"RelayHallModel", "channel", "(III)I"⟩) ∈ lw_G := x_gw (inT_14 _ (List.mem_of_getElem? (i := 229) rfl)) rfl
theorem gw_3590 : (Cond.instanceMethod ⟨"RelayHallModel", "channel", "(III)I"⟩) ∈ lw_G := x_gw (inT_14 _ (List.mem_of_getElem? (i := 230) rfl)) rfl
theorem gw_3591 : (Cond.selects "RelayHallModel" ⟨"RelayHallModel", "channel", "(III)I"⟩ ⟨"RelayHallModel", "channel", "(III)I"⟩) ∈ lw_G := x_gw (inT_14 _ (List.mem_of_getElem? (i := 231) rfl)) rfl
theorem gw_3592 : (Cond.code ⟨"RelayHallModel", "channel", "(III)I"⟩ prog_14_method_164_code 7 (some .int)) ∈ lw_G := x_gw (inT_14 _ (List.mem_of_getElem? (i := 232) rfl)) rfl
theorem gw_3593 : (Cond.methodLink "RelayHallLaw" 84 ⟨"RelayHallModel", "queue", "(II)I"⟩) ∈ lw_G := x_gw (inT_14 _ (List.mem_of_getElem? (i := 233) rfl)) rfl
theorem gw_3594 : (Cond.instanceMethod ⟨"RelayHallModel", "queue", "(II)I"⟩) ∈ lw_G := x_gw (inT_14 _ (List.mem_of_getElem? (i := 234) rfl)) rfl
theorem gw_3595 : (Cond.selects "RelayHallModel" ⟨"RelayHallModel", "queue", "(II)I"⟩ ⟨"RelayHallModel", "queue", "(II)I"⟩) ∈ lw_G := x_gw (inT_14 _ (List.mem_of_getElem? (i := 235) rfl)) rfl
theorem gw_3596 : (Cond.code ⟨"RelayHallModel", "queue", "(II)I"⟩ prog_14_method_166_code 4 (some .int)) ∈ lw_G := x_gw (inT_14 _ (List.mem_of_getElem? (i := 236) rfl)) rfl
theorem gw_3597 : (Cond.methodLink "RelayHallModel" 1037 ⟨"RelayHallModel", "byteOf", "([BI)I"⟩) ∈ lw_G := x_gw (inT_14 _ (List.mem_of_getElem? (i := 237) rfl)) rfl
theorem gw_3598 : (Cond.static ⟨"RelayHallModel", "byteOf", "([BI)I"⟩) ∈ lw_G := x_gw (inT_14 _ (List.mem_of_getElem? (i := 238) rfl)) rfl
theorem gw_3599 : (Cond.code ⟨"RelayHallModel", "byteOf", "([BI)I"⟩ prog_14_method_165_code 2 (some .int)) ∈ lw_G := x_gw (inT_14 _ (List.mem_of_getElem? (i := 239) rfl)) rfl
theorem gw_3600 : (Cond.methodLink "RelayHallLaw" 88 ⟨"RelayHallModel", "exchange", "(II)I"⟩) ∈ lw_G := x_gw (inT_15 _ (List.mem_of_getElem? (i := 0) rfl)) rfl
theorem gw_3601 : (Cond.instanceMethod ⟨"RelayHallModel", "exchange", "(II)I"⟩) ∈ lw_G := x_gw (inT_15 _ (List.mem_of_getElem? (i := 1) rfl)) rfl
theorem gw_3602 : (Cond.selects "RelayHallModel" ⟨"RelayHallModel", "exchange", "(II)I"⟩ ⟨"RelayHallModel", "exchange", "(II)I"⟩) ∈ lw_G := x_gw (inT_15 _ (List.mem_of_getElem? (i := 2) rfl)) rfl
theorem gw_3603 : (Cond.code ⟨"RelayHallModel", "exchange", "(II)I"⟩ prog_14_method_167_code 4 (some .int)) ∈ lw_G := x_gw (inT_15 _ (List.mem_of_getElem? (i := 3) rfl)) rfl
theorem gw_3604 : (Cond.methodLink "RelayHallLaw" 92 ⟨"RelayHallModel", "total", "(I)I"⟩) ∈ lw_G := x_gw (inT_15 _ (List.mem_of_getElem? (i := 4) rfl)) rfl
theorem gw_3605 : (Cond.instanceMethod ⟨"RelayHallModel", "total", "(I)I"⟩) ∈ lw_G := x_gw (inT_15 _ (List.mem_of_getElem? (i := 5) rfl)) rfl
theorem gw_3606 : (Cond.selects "RelayHallModel" ⟨"RelayHallModel", "total", "(I)I"⟩ ⟨"RelayHallModel", "total", "(I)I"⟩) ∈ lw_G := x_gw (inT_15 _ (List.mem_of_getElem? (i := 6) rfl)) rfl
theorem gw_3607 : (Cond.code ⟨"RelayHallModel", "total", "(I)I"⟩ prog_14_method_168_code 2 (some .int)) ∈ lw_G := x_gw (inT_15 _ (List.mem_of_getElem? (i := 7) rfl)) rfl
theorem gw_3608 : (Cond.constantLong "RelayHallLaw" 30 (4294967295)) ∈ lw_G := x_gw (inT_15 _ (List.mem_of_getElem? (i := 8) rfl)) rfl
theorem gw_3609 : (Cond.arrayClass .long) ∈ lw_G := x_gw (inT_15 _ (List.mem_of_getElem? (i := 9) rfl)) rfl
end XL
