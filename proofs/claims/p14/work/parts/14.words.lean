section XL
theorem gw_0 : (Cond.selects "RelayHall$Connection" ⟨"RelayHall$Connection", "hasFineHead", "()Z"⟩ ⟨"RelayHall$Connection", "hasFineHead", "()Z"⟩) ∈ lw_G := x_gw (inT_0 _ (List.mem_of_getElem? (i := 0) (by decide +kernel))) rfl
theorem gw_1 : (Cond.selects "RelayHall" ⟨"RelayHall", "sift", "(LRelayHall$Connection;)LRelayHall$Channel;"⟩ ⟨"RelayHall", "sift", "(LRelayHall$Connection;)LRelayHall$Channel;"⟩) ∈ lw_G := x_gw (inT_0 _ (List.mem_of_getElem? (i := 1) (by decide +kernel))) rfl
theorem gw_2 : (Cond.selects "RelayHall" ⟨"RelayHall", "takeOutsideOpen", "(LRelayHall$Connection;)V"⟩ ⟨"RelayHall", "takeOutsideOpen", "(LRelayHall$Connection;)V"⟩) ∈ lw_G := x_gw (inT_0 _ (List.mem_of_getElem? (i := 2) (by decide +kernel))) rfl
theorem gw_3 : (Cond.selects "RelayHall" ⟨"RelayHall", "takeGreeting", "(LRelayHall$Connection;)V"⟩ ⟨"RelayHall", "takeGreeting", "(LRelayHall$Connection;)V"⟩) ∈ lw_G := x_gw (inT_0 _ (List.mem_of_getElem? (i := 3) (by decide +kernel))) rfl
theorem gw_4 : (Cond.selects "RelayHall" ⟨"RelayHall", "answerNumber", "(LRelayHall$Channel;IJI)V"⟩ ⟨"RelayHall", "answerNumber", "(LRelayHall$Channel;IJI)V"⟩) ∈ lw_G := x_gw (inT_0 _ (List.mem_of_getElem? (i := 4) (by decide +kernel))) rfl
theorem gw_5 : (Cond.selects "RelayHall" ⟨"RelayHall", "ship", "(LRelayHall$Connection;)V"⟩ ⟨"RelayHall", "ship", "(LRelayHall$Connection;)V"⟩) ∈ lw_G := x_gw (inT_0 _ (List.mem_of_getElem? (i := 5) (by decide +kernel))) rfl
theorem gw_6 : (Cond.selects "RelayHall" ⟨"RelayHall", "close", "(LRelayHall$Connection;)V"⟩ ⟨"RelayHall", "close", "(LRelayHall$Connection;)V"⟩) ∈ lw_G := x_gw (inT_0 _ (List.mem_of_getElem? (i := 6) (by decide +kernel))) rfl
theorem gw_7 : (Cond.selects "java/util/ArrayList" ⟨"java/util/ArrayList", "add", "(Ljava/lang/Object;[Ljava/lang/Object;I)V"⟩ ⟨"java/util/ArrayList", "add", "(Ljava/lang/Object;[Ljava/lang/Object;I)V"⟩) ∈ lw_G := x_gw (inT_0 _ (List.mem_of_getElem? (i := 7) (by decide +kernel))) rfl
theorem gw_8 : (Cond.selects "java/util/ArrayList" ⟨"java/util/ArrayList", "grow", "()[Ljava/lang/Object;"⟩ ⟨"java/util/ArrayList", "grow", "()[Ljava/lang/Object;"⟩) ∈ lw_G := x_gw (inT_0 _ (List.mem_of_getElem? (i := 8) (by decide +kernel))) rfl
theorem gw_9 : (Cond.selects "java/util/ArrayList" ⟨"java/util/ArrayList", "grow", "(I)[Ljava/lang/Object;"⟩ ⟨"java/util/ArrayList", "grow", "(I)[Ljava/lang/Object;"⟩) ∈ lw_G := x_gw (inT_0 _ (List.mem_of_getElem? (i := 9) (by decide +kernel))) rfl
theorem gw_10 : (Cond.selects "RelayHall" ⟨"RelayHall", "takeNoFrame", "(LRelayHall$Connection;)V"⟩ ⟨"RelayHall", "takeNoFrame", "(LRelayHall$Connection;)V"⟩) ∈ lw_G := x_gw (inT_0 _ (List.mem_of_getElem? (i := 10) (by decide +kernel))) rfl
theorem gw_11 : (Cond.selects "RelayHall" ⟨"RelayHall", "hard", "(LRelayHall$Connection;I)V"⟩ ⟨"RelayHall", "hard", "(LRelayHall$Connection;I)V"⟩) ∈ lw_G := x_gw (inT_0 _ (List.mem_of_getElem? (i := 11) (by decide +kernel))) rfl
theorem gw_12 : (Cond.selects "RelayHall" ⟨"RelayHall", "draftError", "(LRelayHall$Connection;III)V"⟩ ⟨"RelayHall", "draftError", "(LRelayHall$Connection;III)V"⟩) ∈ lw_G := x_gw (inT_0 _ (List.mem_of_getElem? (i := 12) (by decide +kernel))) rfl
theorem gw_13 : (Cond.selects "RelayHall" ⟨"RelayHall", "takeWhileClosing", "(LRelayHall$Connection;)V"⟩ ⟨"RelayHall", "takeWhileClosing", "(LRelayHall$Connection;)V"⟩) ∈ lw_G := x_gw (inT_0 _ (List.mem_of_getElem? (i := 13) (by decide +kernel))) rfl
theorem gw_14 : (Cond.selects "RelayHall" ⟨"RelayHall", "answer", "(LRelayHall$Channel;I)V"⟩ ⟨"RelayHall", "answer", "(LRelayHall$Channel;I)V"⟩) ∈ lw_G := x_gw (inT_0 _ (List.mem_of_getElem? (i := 14) (by decide +kernel))) rfl
theorem gw_15 : (Cond.selects "RelayHall" ⟨"RelayHall", "shakeHands", "(LRelayHall$Connection;)V"⟩ ⟨"RelayHall", "shakeHands", "(LRelayHall$Connection;)V"⟩) ∈ lw_G := x_gw (inT_0 _ (List.mem_of_getElem? (i := 15) (by decide +kernel))) rfl
theorem gw_16 : (Cond.selects "RelayHall" ⟨"RelayHall", "takeStart", "(LRelayHall$Connection;)V"⟩ ⟨"RelayHall", "takeStart", "(LRelayHall$Connection;)V"⟩) ∈ lw_G := x_gw (inT_0 _ (List.mem_of_getElem? (i := 16) (by decide +kernel))) rfl
theorem gw_17 : (Cond.selects "RelayHall" ⟨"RelayHall", "takeTuning", "(LRelayHall$Connection;)V"⟩ ⟨"RelayHall", "takeTuning", "(LRelayHall$Connection;)V"⟩) ∈ lw_G := x_gw (inT_0 _ (List.mem_of_getElem? (i := 17) (by decide +kernel))) rfl
theorem gw_18 : (Cond.selects "RelayHall" ⟨"RelayHall", "takeOpening", "(LRelayHall$Connection;)V"⟩ ⟨"RelayHall", "takeOpening", "(LRelayHall$Connection;)V"⟩) ∈ lw_G := x_gw (inT_0 _ (List.mem_of_getElem? (i := 18) (by decide +kernel))) rfl
theorem gw_19 : (Cond.selects "RelayHall" ⟨"RelayHall", "takeWhileEnding", "(LRelayHall$Channel;)V"⟩ ⟨"RelayHall", "takeWhileEnding", "(LRelayHall$Channel;)V"⟩) ∈ lw_G := x_gw (inT_0 _ (List.mem_of_getElem? (i := 19) (by decide +kernel))) rfl
theorem gw_20 : (Cond.selects "RelayHall" ⟨"RelayHall", "faultOf", "(LRelayHall$Channel;)I"⟩ ⟨"RelayHall", "faultOf", "(LRelayHall$Channel;)I"⟩) ∈ lw_G := x_gw (inT_0 _ (List.mem_of_getElem? (i := 20) (by decide +kernel))) rfl
theorem gw_21 : (Cond.selects "RelayHall" ⟨"RelayHall", "faultOfMethod", "(LRelayHall$Channel;)I"⟩ ⟨"RelayHall", "faultOfMethod", "(LRelayHall$Channel;)I"⟩) ∈ lw_G := x_gw (inT_0 _ (List.mem_of_getElem? (i := 21) (by decide +kernel))) rfl
theorem gw_22 : (Cond.selects "RelayHall" ⟨"RelayHall", "perform", "(LRelayHall$Channel;)V"⟩ ⟨"RelayHall", "perform", "(LRelayHall$Channel;)V"⟩) ∈ lw_G := x_gw (inT_0 _ (List.mem_of_getElem? (i := 22) (by decide +kernel))) rfl
theorem gw_23 : (Cond.selects "RelayHall" ⟨"RelayHall", "closeHall", "(LRelayHall$Channel;)V"⟩ ⟨"RelayHall", "closeHall", "(LRelayHall$Channel;)V"⟩) ∈ lw_G := x_gw (inT_0 _ (List.mem_of_getElem? (i := 23) (by decide +kernel))) rfl
theorem gw_25 : (Cond.selects "RelayHall" ⟨"RelayHall", "argumentsEnd", "(LRelayHall$Channel;)Z"⟩ ⟨"RelayHall", "argumentsEnd", "(LRelayHall$Channel;)Z"⟩) ∈ lw_G := x_gw (inT_0 _ (List.mem_of_getElem? (i := 25) (by decide +kernel))) rfl
theorem gw_26 : (Cond.selects "RelayHall" ⟨"RelayHall", "openChannel", "(LRelayHall$Channel;)V"⟩ ⟨"RelayHall", "openChannel", "(LRelayHall$Channel;)V"⟩) ∈ lw_G := x_gw (inT_0 _ (List.mem_of_getElem? (i := 26) (by decide +kernel))) rfl
theorem gw_27 : (Cond.selects "RelayHall" ⟨"RelayHall", "flow", "(LRelayHall$Channel;)V"⟩ ⟨"RelayHall", "flow", "(LRelayHall$Channel;)V"⟩) ∈ lw_G := x_gw (inT_0 _ (List.mem_of_getElem? (i := 27) (by decide +kernel))) rfl
theorem gw_28 : (Cond.selects "RelayHall" ⟨"RelayHall", "closeChannel", "(LRelayHall$Channel;)V"⟩ ⟨"RelayHall", "closeChannel", "(LRelayHall$Channel;)V"⟩) ∈ lw_G := x_gw (inT_0 _ (List.mem_of_getElem? (i := 28) (by decide +kernel))) rfl
theorem gw_29 : (Cond.selects "RelayHall" ⟨"RelayHall", "declareExchange", "(LRelayHall$Channel;)V"⟩ ⟨"RelayHall", "declareExchange", "(LRelayHall$Channel;)V"⟩) ∈ lw_G := x_gw (inT_0 _ (List.mem_of_getElem? (i := 29) (by decide +kernel))) rfl
theorem gw_30 : (Cond.selects "RelayHall$Table" ⟨"RelayHall$Table", "endOfValue", "(I)I"⟩ ⟨"RelayHall$Table", "endOfValue", "(I)I"⟩) ∈ lw_G := x_gw (inT_0 _ (List.mem_of_getElem? (i := 30) (by decide +kernel))) rfl
theorem gw_37 : (Cond.selects "RelayHall" ⟨"RelayHall", "deleteExchange", "(LRelayHall$Channel;)V"⟩ ⟨"RelayHall", "deleteExchange", "(LRelayHall$Channel;)V"⟩) ∈ lw_G := x_gw (inT_0 _ (List.mem_of_getElem? (i := 37) (by decide +kernel))) rfl
theorem gw_42 : (Cond.selects "RelayHall" ⟨"RelayHall", "declareQueue", "(LRelayHall$Channel;)V"⟩ ⟨"RelayHall", "declareQueue", "(LRelayHall$Channel;)V"⟩) ∈ lw_G := x_gw (inT_0 _ (List.mem_of_getElem? (i := 42) (by decide +kernel))) rfl
theorem gw_43 : (Cond.selects "RelayHall" ⟨"RelayHall", "lookedFor", "(LRelayHall$Channel;Ljava/lang/String;)LRelayHall$Queue;"⟩ ⟨"RelayHall", "lookedFor", "(LRelayHall$Channel;Ljava/lang/String;)LRelayHall$Queue;"⟩) ∈ lw_G := x_gw (inT_0 _ (List.mem_of_getElem? (i := 43) (by decide +kernel))) rfl
theorem gw_45 : (Cond.selects "RelayHall" ⟨"RelayHall", "makeQueue", "(LRelayHall$Channel;Ljava/lang/String;ILRelayHall$Table;)LRelayHall$Queue;"⟩ ⟨"RelayHall", "makeQueue", "(LRelayHall$Channel;Ljava/lang/String;ILRelayHall$Table;)LRelayHall$Queue;"⟩) ∈ lw_G := x_gw (inT_0 _ (List.mem_of_getElem? (i := 45) (by decide +kernel))) rfl
theorem gw_48 : (Cond.selects "RelayHall" ⟨"RelayHall", "consumersOf", "(LRelayHall$Queue;)I"⟩ ⟨"RelayHall", "consumersOf", "(LRelayHall$Queue;)I"⟩) ∈ lw_G := x_gw (inT_0 _ (List.mem_of_getElem? (i := 48) (by decide +kernel))) rfl
theorem gw_49 : (Cond.selects "RelayHall" ⟨"RelayHall", "bind", "(LRelayHall$Channel;)V"⟩ ⟨"RelayHall", "bind", "(LRelayHall$Channel;)V"⟩) ∈ lw_G := x_gw (inT_0 _ (List.mem_of_getElem? (i := 49) (by decide +kernel))) rfl
theorem gw_52 : (Cond.selects "RelayHall" ⟨"RelayHall", "unbind", "(LRelayHall$Channel;)V"⟩ ⟨"RelayHall", "unbind", "(LRelayHall$Channel;)V"⟩) ∈ lw_G := x_gw (inT_0 _ (List.mem_of_getElem? (i := 52) (by decide +kernel))) rfl
theorem gw_53 : (Cond.selects "RelayHall" ⟨"RelayHall", "purge", "(LRelayHall$Channel;)V"⟩ ⟨"RelayHall", "purge", "(LRelayHall$Channel;)V"⟩) ∈ lw_G := x_gw (inT_0 _ (List.mem_of_getElem? (i := 53) (by decide +kernel))) rfl
theorem gw_55 : (Cond.selects "RelayHall" ⟨"RelayHall", "deleteQueue", "(LRelayHall$Channel;)V"⟩ ⟨"RelayHall", "deleteQueue", "(LRelayHall$Channel;)V"⟩) ∈ lw_G := x_gw (inT_0 _ (List.mem_of_getElem? (i := 55) (by decide +kernel))) rfl
theorem gw_56 : (Cond.selects "RelayHall" ⟨"RelayHall", "removeQueue", "(LRelayHall$Queue;)V"⟩ ⟨"RelayHall", "removeQueue", "(LRelayHall$Queue;)V"⟩) ∈ lw_G := x_gw (inT_0 _ (List.mem_of_getElem? (i := 56) (by decide +kernel))) rfl
theorem gw_59 : (Cond.selects "RelayHall" ⟨"RelayHall", "limit", "(LRelayHall$Channel;)V"⟩ ⟨"RelayHall", "limit", "(LRelayHall$Channel;)V"⟩) ∈ lw_G := x_gw (inT_0 _ (List.mem_of_getElem? (i := 59) (by decide +kernel))) rfl
theorem gw_60 : (Cond.selects "RelayHall" ⟨"RelayHall", "consume", "(LRelayHall$Channel;)V"⟩ ⟨"RelayHall", "consume", "(LRelayHall$Channel;)V"⟩) ∈ lw_G := x_gw (inT_0 _ (List.mem_of_getElem? (i := 60) (by decide +kernel))) rfl
theorem gw_65 : (Cond.selects "RelayHall" ⟨"RelayHall", "cancel", "(LRelayHall$Channel;)V"⟩ ⟨"RelayHall", "cancel", "(LRelayHall$Channel;)V"⟩) ∈ lw_G := x_gw (inT_0 _ (List.mem_of_getElem? (i := 65) (by decide +kernel))) rfl
theorem gw_66 : (Cond.selects "RelayHall" ⟨"RelayHall", "removeConsumer", "(I)V"⟩ ⟨"RelayHall", "removeConsumer", "(I)V"⟩) ∈ lw_G := x_gw (inT_0 _ (List.mem_of_getElem? (i := 66) (by decide +kernel))) rfl
theorem gw_67 : (Cond.selects "RelayHall" ⟨"RelayHall", "beginContent", "(LRelayHall$Channel;)V"⟩ ⟨"RelayHall", "beginContent", "(LRelayHall$Channel;)V"⟩) ∈ lw_G := x_gw (inT_0 _ (List.mem_of_getElem? (i := 67) (by decide +kernel))) rfl
theorem gw_68 : (Cond.selects "RelayHall" ⟨"RelayHall", "get", "(LRelayHall$Channel;)V"⟩ ⟨"RelayHall", "get", "(LRelayHall$Channel;)V"⟩) ∈ lw_G := x_gw (inT_0 _ (List.mem_of_getElem? (i := 68) (by decide +kernel))) rfl
theorem gw_71 : (Cond.selects "RelayHall" ⟨"RelayHall", "acknowledge", "(LRelayHall$Channel;)V"⟩ ⟨"RelayHall", "acknowledge", "(LRelayHall$Channel;)V"⟩) ∈ lw_G := x_gw (inT_0 _ (List.mem_of_getElem? (i := 71) (by decide +kernel))) rfl
theorem gw_73 : (Cond.selects "RelayHall" ⟨"RelayHall", "finish", "(LRelayHall$Channel;II)V"⟩ ⟨"RelayHall", "finish", "(LRelayHall$Channel;II)V"⟩) ∈ lw_G := x_gw (inT_0 _ (List.mem_of_getElem? (i := 73) (by decide +kernel))) rfl
theorem gw_77 : (Cond.selects "RelayHall" ⟨"RelayHall", "recover", "(LRelayHall$Channel;)V"⟩ ⟨"RelayHall", "recover", "(LRelayHall$Channel;)V"⟩) ∈ lw_G := x_gw (inT_0 _ (List.mem_of_getElem? (i := 77) (by decide +kernel))) rfl
theorem gw_78 : (Cond.selects "RelayHall" ⟨"RelayHall", "selectConfirms", "(LRelayHall$Channel;)V"⟩ ⟨"RelayHall", "selectConfirms", "(LRelayHall$Channel;)V"⟩) ∈ lw_G := x_gw (inT_0 _ (List.mem_of_getElem? (i := 78) (by decide +kernel))) rfl
theorem gw_79 : (Cond.selects "RelayHall" ⟨"RelayHall", "selectTransactions", "(LRelayHall$Channel;)V"⟩ ⟨"RelayHall", "selectTransactions", "(LRelayHall$Channel;)V"⟩) ∈ lw_G := x_gw (inT_0 _ (List.mem_of_getElem? (i := 79) (by decide +kernel))) rfl
theorem gw_80 : (Cond.selects "RelayHall" ⟨"RelayHall", "commit", "(LRelayHall$Channel;)V"⟩ ⟨"RelayHall", "commit", "(LRelayHall$Channel;)V"⟩) ∈ lw_G := x_gw (inT_0 _ (List.mem_of_getElem? (i := 80) (by decide +kernel))) rfl
theorem gw_82 : (Cond.selects "RelayHall" ⟨"RelayHall", "spread", "(LRelayHall$Message;)Z"⟩ ⟨"RelayHall", "spread", "(LRelayHall$Message;)Z"⟩) ∈ lw_G := x_gw (inT_0 _ (List.mem_of_getElem? (i := 82) (by decide +kernel))) rfl
theorem gw_87 : (Cond.selects "RelayHall" ⟨"RelayHall", "rollBack", "(LRelayHall$Channel;)V"⟩ ⟨"RelayHall", "rollBack", "(LRelayHall$Channel;)V"⟩) ∈ lw_G := x_gw (inT_0 _ (List.mem_of_getElem? (i := 87) (by decide +kernel))) rfl
theorem gw_88 : (Cond.selects "RelayHall" ⟨"RelayHall", "takeHeader", "(LRelayHall$Channel;)V"⟩ ⟨"RelayHall", "takeHeader", "(LRelayHall$Channel;)V"⟩) ∈ lw_G := x_gw (inT_0 _ (List.mem_of_getElem? (i := 88) (by decide +kernel))) rfl
theorem gw_92 : (Cond.selects "RelayHall" ⟨"RelayHall", "takeBody", "(LRelayHall$Channel;)V"⟩ ⟨"RelayHall", "takeBody", "(LRelayHall$Channel;)V"⟩) ∈ lw_G := x_gw (inT_0 _ (List.mem_of_getElem? (i := 92) (by decide +kernel))) rfl
theorem gw_93 : (Cond.selects "RelayHall" ⟨"RelayHall", "dispatch", "()V"⟩ ⟨"RelayHall", "dispatch", "()V"⟩) ∈ lw_G := x_gw (inT_0 _ (List.mem_of_getElem? (i := 93) (by decide +kernel))) rfl
theorem gw_94 : (Cond.selects "RelayHall" ⟨"RelayHall", "letLeave", "()V"⟩ ⟨"RelayHall", "letLeave", "()V"⟩) ∈ lw_G := x_gw (inT_0 _ (List.mem_of_getElem? (i := 94) (by decide +kernel))) rfl
theorem gw_95 : (Cond.selects "RelayHall" ⟨"RelayHall", "gone", "(LRelayHall$Channel;)V"⟩ ⟨"RelayHall", "gone", "(LRelayHall$Channel;)V"⟩) ∈ lw_G := x_gw (inT_0 _ (List.mem_of_getElem? (i := 95) (by decide +kernel))) rfl
theorem gw_96 : (Cond.selects "RelayHall" ⟨"RelayHall", "letLeaveWhole", "(LRelayHall$Connection;)V"⟩ ⟨"RelayHall", "letLeaveWhole", "(LRelayHall$Connection;)V"⟩) ∈ lw_G := x_gw (inT_0 _ (List.mem_of_getElem? (i := 96) (by decide +kernel))) rfl
theorem gw_97 : (Cond.selects "RelayHall" ⟨"RelayHall", "dispatchOne", "()Z"⟩ ⟨"RelayHall", "dispatchOne", "()Z"⟩) ∈ lw_G := x_gw (inT_0 _ (List.mem_of_getElem? (i := 97) (by decide +kernel))) rfl
theorem gw_98 : (Cond.selects "RelayHall" ⟨"RelayHall", "nextConsumer", "(LRelayHall$Queue;)LRelayHall$Consumer;"⟩ ⟨"RelayHall", "nextConsumer", "(LRelayHall$Queue;)LRelayHall$Consumer;"⟩) ∈ lw_G := x_gw (inT_0 _ (List.mem_of_getElem? (i := 98) (by decide +kernel))) rfl
theorem gw_99 : (Cond.selects "RelayHall" ⟨"RelayHall", "deliver", "(LRelayHall$Queue;LRelayHall$Consumer;)V"⟩ ⟨"RelayHall", "deliver", "(LRelayHall$Queue;LRelayHall$Consumer;)V"⟩) ∈ lw_G := x_gw (inT_0 _ (List.mem_of_getElem? (i := 99) (by decide +kernel))) rfl
theorem gw_108 : (Cond.selects "RelayHallModel" ⟨"RelayHallModel", "takeIn", "(LRelayHallModel$Connection;)V"⟩ ⟨"RelayHallModel", "takeIn", "(LRelayHallModel$Connection;)V"⟩) ∈ lw_G := x_gw (inT_0 _ (List.mem_of_getElem? (i := 108) (by decide +kernel))) rfl
theorem gw_109 : (Cond.selects "RelayHallModel" ⟨"RelayHallModel", "takesOne", "(LRelayHallModel$Connection;)Z"⟩ ⟨"RelayHallModel", "takesOne", "(LRelayHallModel$Connection;)Z"⟩) ∈ lw_G := x_gw (inT_0 _ (List.mem_of_getElem? (i := 109) (by decide +kernel))) rfl
theorem gw_110 : (Cond.selects "RelayHallModel" ⟨"RelayHallModel", "greet", "(LRelayHallModel$Connection;)V"⟩ ⟨"RelayHallModel", "greet", "(LRelayHallModel$Connection;)V"⟩) ∈ lw_G := x_gw (inT_0 _ (List.mem_of_getElem? (i := 110) (by decide +kernel))) rfl
theorem gw_111 : (Cond.selects "RelayHallModel" ⟨"RelayHallModel", "drop", "(LRelayHallModel$Connection;I)V"⟩ ⟨"RelayHallModel", "drop", "(LRelayHallModel$Connection;I)V"⟩) ∈ lw_G := x_gw (inT_0 _ (List.mem_of_getElem? (i := 111) (by decide +kernel))) rfl
theorem gw_112 : (Cond.selects "RelayHallModel" ⟨"RelayHallModel", "beginMethod", "(III)V"⟩ ⟨"RelayHallModel", "beginMethod", "(III)V"⟩) ∈ lw_G := x_gw (inT_0 _ (List.mem_of_getElem? (i := 112) (by decide +kernel))) rfl
theorem gw_113 : (Cond.selects "RelayHallModel" ⟨"RelayHallModel", "beginFrame", "(II)V"⟩ ⟨"RelayHallModel", "beginFrame", "(II)V"⟩) ∈ lw_G := x_gw (inT_0 _ (List.mem_of_getElem? (i := 113) (by decide +kernel))) rfl
theorem gw_114 : (Cond.selects "RelayHallModel" ⟨"RelayHallModel", "put", "(I)V"⟩ ⟨"RelayHallModel", "put", "(I)V"⟩) ∈ lw_G := x_gw (inT_0 _ (List.mem_of_getElem? (i := 114) (by decide +kernel))) rfl
theorem gw_115 : (Cond.selects "RelayHallModel" ⟨"RelayHallModel", "put16", "(I)V"⟩ ⟨"RelayHallModel", "put16", "(I)V"⟩) ∈ lw_G := x_gw (inT_0 _ (List.mem_of_getElem? (i := 115) (by decide +kernel))) rfl
theorem gw_116 : (Cond.selects "RelayHallModel" ⟨"RelayHallModel", "put32", "(I)V"⟩ ⟨"RelayHallModel", "put32", "(I)V"⟩) ∈ lw_G := x_gw (inT_0 _ (List.mem_of_getElem? (i := 116) (by decide +kernel))) rfl
theorem gw_117 : (Cond.selects "RelayHallModel" ⟨"RelayHallModel", "goFrame", "(LRelayHallModel$Connection;)V"⟩ ⟨"RelayHallModel", "goFrame", "(LRelayHallModel$Connection;)V"⟩) ∈ lw_G := x_gw (inT_0 _ (List.mem_of_getElem? (i := 117) (by decide +kernel))) rfl
theorem gw_118 : (Cond.selects "RelayHallModel" ⟨"RelayHallModel", "endFrame", "()V"⟩ ⟨"RelayHallModel", "endFrame", "()V"⟩) ∈ lw_G := x_gw (inT_0 _ (List.mem_of_getElem? (i := 118) (by decide +kernel))) rfl
theorem gw_119 : (Cond.selects "RelayHallModel" ⟨"RelayHallModel", "go", "(LRelayHallModel$Connection;)V"⟩ ⟨"RelayHallModel", "go", "(LRelayHallModel$Connection;)V"⟩) ∈ lw_G := x_gw (inT_0 _ (List.mem_of_getElem? (i := 119) (by decide +kernel))) rfl
theorem gw_120 : (Cond.selects "RelayHallModel" ⟨"RelayHallModel", "close", "(LRelayHallModel$Connection;)V"⟩ ⟨"RelayHallModel", "close", "(LRelayHallModel$Connection;)V"⟩) ∈ lw_G := x_gw (inT_0 _ (List.mem_of_getElem? (i := 120) (by decide +kernel))) rfl
theorem gw_125 : (Cond.selects "RelayHallModel" ⟨"RelayHallModel", "consumersOf", "(LRelayHallModel$Queue;)I"⟩ ⟨"RelayHallModel", "consumersOf", "(LRelayHallModel$Queue;)I"⟩) ∈ lw_G := x_gw (inT_0 _ (List.mem_of_getElem? (i := 125) (by decide +kernel))) rfl
theorem gw_132 : (Cond.selects "RelayHallModel" ⟨"RelayHallModel", "putShort", "([B)V"⟩ ⟨"RelayHallModel", "putShort", "([B)V"⟩) ∈ lw_G := x_gw (inT_0 _ (List.mem_of_getElem? (i := 132) (by decide +kernel))) rfl
theorem gw_133 : (Cond.selects "RelayHallModel" ⟨"RelayHallModel", "putBytes", "([B)V"⟩ ⟨"RelayHallModel", "putBytes", "([B)V"⟩) ∈ lw_G := x_gw (inT_0 _ (List.mem_of_getElem? (i := 133) (by decide +kernel))) rfl
theorem gw_137 : (Cond.selects "RelayHallModel" ⟨"RelayHallModel", "ready", "(LRelayHallModel$Queue;)I"⟩ ⟨"RelayHallModel", "ready", "(LRelayHallModel$Queue;)I"⟩) ∈ lw_G := x_gw (inT_0 _ (List.mem_of_getElem? (i := 137) (by decide +kernel))) rfl
theorem gw_138 : (Cond.selects "RelayHallModel" ⟨"RelayHallModel", "first", "(LRelayHallModel$Queue;)LRelayHallModel$Entry;"⟩ ⟨"RelayHallModel", "first", "(LRelayHallModel$Queue;)LRelayHallModel$Entry;"⟩) ∈ lw_G := x_gw (inT_0 _ (List.mem_of_getElem? (i := 138) (by decide +kernel))) rfl
theorem gw_142 : (Cond.selects "RelayHallModel" ⟨"RelayHallModel", "noFrame", "(LRelayHallModel$Connection;)V"⟩ ⟨"RelayHallModel", "noFrame", "(LRelayHallModel$Connection;)V"⟩) ∈ lw_G := x_gw (inT_0 _ (List.mem_of_getElem? (i := 142) (by decide +kernel))) rfl
theorem gw_143 : (Cond.selects "RelayHallModel" ⟨"RelayHallModel", "hard", "(LRelayHallModel$Connection;III)V"⟩ ⟨"RelayHallModel", "hard", "(LRelayHallModel$Connection;III)V"⟩) ∈ lw_G := x_gw (inT_0 _ (List.mem_of_getElem? (i := 143) (by decide +kernel))) rfl
theorem gw_145 : (Cond.selects "RelayHallModel" ⟨"RelayHallModel", "dispatch", "()V"⟩ ⟨"RelayHallModel", "dispatch", "()V"⟩) ∈ lw_G := x_gw (inT_0 _ (List.mem_of_getElem? (i := 145) (by decide +kernel))) rfl
theorem gw_146 : (Cond.selects "RelayHallModel" ⟨"RelayHallModel", "dispatchOne", "()Z"⟩ ⟨"RelayHallModel", "dispatchOne", "()Z"⟩) ∈ lw_G := x_gw (inT_0 _ (List.mem_of_getElem? (i := 146) (by decide +kernel))) rfl
theorem gw_147 : (Cond.selects "RelayHallModel" ⟨"RelayHallModel", "bury", "()V"⟩ ⟨"RelayHallModel", "bury", "()V"⟩) ∈ lw_G := x_gw (inT_0 _ (List.mem_of_getElem? (i := 147) (by decide +kernel))) rfl
theorem gw_151 : (Cond.selects "RelayHallModel" ⟨"RelayHallModel", "queue", "([B)LRelayHallModel$Queue;"⟩ ⟨"RelayHallModel", "queue", "([B)LRelayHallModel$Queue;"⟩) ∈ lw_G := x_gw (inT_0 _ (List.mem_of_getElem? (i := 151) (by decide +kernel))) rfl
theorem gw_157 : (Cond.selects "RelayHallModel" ⟨"RelayHallModel", "nextOf", "(LRelayHallModel$Queue;)LRelayHallModel$Consumer;"⟩ ⟨"RelayHallModel", "nextOf", "(LRelayHallModel$Queue;)LRelayHallModel$Consumer;"⟩) ∈ lw_G := x_gw (inT_0 _ (List.mem_of_getElem? (i := 157) (by decide +kernel))) rfl
theorem gw_160 : (Cond.selects "RelayHallModel" ⟨"RelayHallModel", "deliver", "(LRelayHallModel$Queue;LRelayHallModel$Consumer;)V"⟩ ⟨"RelayHallModel", "deliver", "(LRelayHallModel$Queue;LRelayHallModel$Consumer;)V"⟩) ∈ lw_G := x_gw (inT_0 _ (List.mem_of_getElem? (i := 160) (by decide +kernel))) rfl
theorem gw_163 : (Cond.selects "RelayHallModel" ⟨"RelayHallModel", "readHead", "(I)V"⟩ ⟨"RelayHallModel", "readHead", "(I)V"⟩) ∈ lw_G := x_gw (inT_0 _ (List.mem_of_getElem? (i := 163) (by decide +kernel))) rfl
theorem gw_164 : (Cond.selects "RelayHallModel" ⟨"RelayHallModel", "u16", "()I"⟩ ⟨"RelayHallModel", "u16", "()I"⟩) ∈ lw_G := x_gw (inT_0 _ (List.mem_of_getElem? (i := 164) (by decide +kernel))) rfl
theorem gw_165 : (Cond.selects "RelayHallModel" ⟨"RelayHallModel", "u8", "()I"⟩ ⟨"RelayHallModel", "u8", "()I"⟩) ∈ lw_G := x_gw (inT_0 _ (List.mem_of_getElem? (i := 165) (by decide +kernel))) rfl
theorem gw_166 : (Cond.selects "RelayHallModel" ⟨"RelayHallModel", "onOpen", "(LRelayHallModel$Connection;II)V"⟩ ⟨"RelayHallModel", "onOpen", "(LRelayHallModel$Connection;II)V"⟩) ∈ lw_G := x_gw (inT_0 _ (List.mem_of_getElem? (i := 166) (by decide +kernel))) rfl
theorem gw_167 : (Cond.selects "RelayHallModel" ⟨"RelayHallModel", "simple", "(LRelayHallModel$Connection;III)V"⟩ ⟨"RelayHallModel", "simple", "(LRelayHallModel$Connection;III)V"⟩) ∈ lw_G := x_gw (inT_0 _ (List.mem_of_getElem? (i := 167) (by decide +kernel))) rfl
theorem gw_168 : (Cond.selects "RelayHallModel" ⟨"RelayHallModel", "onConnection", "(LRelayHallModel$Connection;)V"⟩ ⟨"RelayHallModel", "onConnection", "(LRelayHallModel$Connection;)V"⟩) ∈ lw_G := x_gw (inT_0 _ (List.mem_of_getElem? (i := 168) (by decide +kernel))) rfl
theorem gw_170 : (Cond.selects "RelayHallModel" ⟨"RelayHallModel", "shortText", "()[B"⟩ ⟨"RelayHallModel", "shortText", "()[B"⟩) ∈ lw_G := x_gw (inT_0 _ (List.mem_of_getElem? (i := 170) (by decide +kernel))) rfl
theorem gw_171 : (Cond.selects "RelayHallModel" ⟨"RelayHallModel", "bytes", "(I)[B"⟩ ⟨"RelayHallModel", "bytes", "(I)[B"⟩) ∈ lw_G := x_gw (inT_0 _ (List.mem_of_getElem? (i := 171) (by decide +kernel))) rfl
theorem gw_172 : (Cond.selects "RelayHallModel" ⟨"RelayHallModel", "whole", "()Z"⟩ ⟨"RelayHallModel", "whole", "()Z"⟩) ∈ lw_G := x_gw (inT_0 _ (List.mem_of_getElem? (i := 172) (by decide +kernel))) rfl
theorem gw_173 : (Cond.selects "RelayHallModel" ⟨"RelayHallModel", "onChannel", "(LRelayHallModel$Connection;LRelayHallModel$Channel;)V"⟩ ⟨"RelayHallModel", "onChannel", "(LRelayHallModel$Connection;LRelayHallModel$Channel;)V"⟩) ∈ lw_G := x_gw (inT_0 _ (List.mem_of_getElem? (i := 173) (by decide +kernel))) rfl
theorem gw_174 : (Cond.selects "RelayHallModel" ⟨"RelayHallModel", "isTold", "(II)Z"⟩ ⟨"RelayHallModel", "isTold", "(II)Z"⟩) ∈ lw_G := x_gw (inT_0 _ (List.mem_of_getElem? (i := 174) (by decide +kernel))) rfl
theorem gw_175 : (Cond.selects "RelayHallModel" ⟨"RelayHallModel", "wrong", "(LRelayHallModel$Channel;)Z"⟩ ⟨"RelayHallModel", "wrong", "(LRelayHallModel$Channel;)Z"⟩) ∈ lw_G := x_gw (inT_0 _ (List.mem_of_getElem? (i := 175) (by decide +kernel))) rfl
theorem gw_176 : (Cond.selects "RelayHallModel" ⟨"RelayHallModel", "opens", "(LRelayHallModel$Channel;)V"⟩ ⟨"RelayHallModel", "opens", "(LRelayHallModel$Channel;)V"⟩) ∈ lw_G := x_gw (inT_0 _ (List.mem_of_getElem? (i := 176) (by decide +kernel))) rfl
theorem gw_177 : (Cond.selects "RelayHallModel" ⟨"RelayHallModel", "flow", "(LRelayHallModel$Channel;)V"⟩ ⟨"RelayHallModel", "flow", "(LRelayHallModel$Channel;)V"⟩) ∈ lw_G := x_gw (inT_0 _ (List.mem_of_getElem? (i := 177) (by decide +kernel))) rfl
theorem gw_178 : (Cond.selects "RelayHallModel" ⟨"RelayHallModel", "closesChannel", "(LRelayHallModel$Channel;)V"⟩ ⟨"RelayHallModel", "closesChannel", "(LRelayHallModel$Channel;)V"⟩) ∈ lw_G := x_gw (inT_0 _ (List.mem_of_getElem? (i := 178) (by decide +kernel))) rfl
theorem gw_179 : (Cond.selects "RelayHallModel" ⟨"RelayHallModel", "declareExchange", "(LRelayHallModel$Channel;)V"⟩ ⟨"RelayHallModel", "declareExchange", "(LRelayHallModel$Channel;)V"⟩) ∈ lw_G := x_gw (inT_0 _ (List.mem_of_getElem? (i := 179) (by decide +kernel))) rfl
theorem gw_180 : (Cond.selects "RelayHallModel" ⟨"RelayHallModel", "table", "()LRelayHallModel$Table;"⟩ ⟨"RelayHallModel", "table", "()LRelayHallModel$Table;"⟩) ∈ lw_G := x_gw (inT_0 _ (List.mem_of_getElem? (i := 180) (by decide +kernel))) rfl
theorem gw_181 : (Cond.selects "RelayHallModel" ⟨"RelayHallModel", "u32", "()I"⟩ ⟨"RelayHallModel", "u32", "()I"⟩) ∈ lw_G := x_gw (inT_0 _ (List.mem_of_getElem? (i := 181) (by decide +kernel))) rfl
theorem gw_182 : (Cond.selects "RelayHallModel" ⟨"RelayHallModel", "longText", "()[B"⟩ ⟨"RelayHallModel", "longText", "()[B"⟩) ∈ lw_G := x_gw (inT_0 _ (List.mem_of_getElem? (i := 182) (by decide +kernel))) rfl
theorem gw_183 : (Cond.selects "RelayHallModel" ⟨"RelayHallModel", "soft", "(LRelayHallModel$Channel;I)V"⟩ ⟨"RelayHallModel", "soft", "(LRelayHallModel$Channel;I)V"⟩) ∈ lw_G := x_gw (inT_0 _ (List.mem_of_getElem? (i := 183) (by decide +kernel))) rfl
theorem gw_186 : (Cond.selects "RelayHallModel" ⟨"RelayHallModel", "deleteExchange", "(LRelayHallModel$Channel;)V"⟩ ⟨"RelayHallModel", "deleteExchange", "(LRelayHallModel$Channel;)V"⟩) ∈ lw_G := x_gw (inT_0 _ (List.mem_of_getElem? (i := 186) (by decide +kernel))) rfl
theorem gw_187 : (Cond.selects "RelayHallModel" ⟨"RelayHallModel", "onQueue", "(LRelayHallModel$Channel;)V"⟩ ⟨"RelayHallModel", "onQueue", "(LRelayHallModel$Channel;)V"⟩) ∈ lw_G := x_gw (inT_0 _ (List.mem_of_getElem? (i := 187) (by decide +kernel))) rfl
theorem gw_188 : (Cond.selects "RelayHallModel" ⟨"RelayHallModel", "declareQueue", "(LRelayHallModel$Channel;)V"⟩ ⟨"RelayHallModel", "declareQueue", "(LRelayHallModel$Channel;)V"⟩) ∈ lw_G := x_gw (inT_0 _ (List.mem_of_getElem? (i := 188) (by decide +kernel))) rfl
theorem gw_189 : (Cond.selects "RelayHallModel" ⟨"RelayHallModel", "passive", "(LRelayHallModel$Channel;LRelayHallModel$Queue;)LRelayHallModel$Queue;"⟩ ⟨"RelayHallModel", "passive", "(LRelayHallModel$Channel;LRelayHallModel$Queue;)LRelayHallModel$Queue;"⟩) ∈ lw_G := x_gw (inT_0 _ (List.mem_of_getElem? (i := 189) (by decide +kernel))) rfl
theorem gw_190 : (Cond.selects "RelayHallModel" ⟨"RelayHallModel", "drafted", "(LRelayHallModel$Table;)LRelayHallModel$Queue;"⟩ ⟨"RelayHallModel", "drafted", "(LRelayHallModel$Table;)LRelayHallModel$Queue;"⟩) ∈ lw_G := x_gw (inT_0 _ (List.mem_of_getElem? (i := 190) (by decide +kernel))) rfl
theorem gw_191 : (Cond.selects "RelayHallModel" ⟨"RelayHallModel", "declared", "(LRelayHallModel$Channel;[BILRelayHallModel$Queue;)LRelayHallModel$Queue;"⟩ ⟨"RelayHallModel", "declared", "(LRelayHallModel$Channel;[BILRelayHallModel$Queue;)LRelayHallModel$Queue;"⟩) ∈ lw_G := x_gw (inT_0 _ (List.mem_of_getElem? (i := 191) (by decide +kernel))) rfl
theorem gw_192 : (Cond.selects "RelayHallModel" ⟨"RelayHallModel", "bind", "(LRelayHallModel$Channel;Z)V"⟩ ⟨"RelayHallModel", "bind", "(LRelayHallModel$Channel;Z)V"⟩) ∈ lw_G := x_gw (inT_0 _ (List.mem_of_getElem? (i := 192) (by decide +kernel))) rfl
theorem gw_198 : (Cond.selects "RelayHallModel" ⟨"RelayHallModel", "purge", "(LRelayHallModel$Channel;)V"⟩ ⟨"RelayHallModel", "purge", "(LRelayHallModel$Channel;)V"⟩) ∈ lw_G := x_gw (inT_0 _ (List.mem_of_getElem? (i := 198) (by decide +kernel))) rfl
theorem gw_199 : (Cond.selects "RelayHallModel" ⟨"RelayHallModel", "deleteQueue", "(LRelayHallModel$Channel;)V"⟩ ⟨"RelayHallModel", "deleteQueue", "(LRelayHallModel$Channel;)V"⟩) ∈ lw_G := x_gw (inT_0 _ (List.mem_of_getElem? (i := 199) (by decide +kernel))) rfl
theorem gw_200 : (Cond.selects "RelayHallModel" ⟨"RelayHallModel", "onMessage", "(LRelayHallModel$Channel;)V"⟩ ⟨"RelayHallModel", "onMessage", "(LRelayHallModel$Channel;)V"⟩) ∈ lw_G := x_gw (inT_0 _ (List.mem_of_getElem? (i := 200) (by decide +kernel))) rfl
theorem gw_216 : (Cond.selects "RelayHallModel" ⟨"RelayHallModel", "confirms", "(LRelayHallModel$Channel;)V"⟩ ⟨"RelayHallModel", "confirms", "(LRelayHallModel$Channel;)V"⟩) ∈ lw_G := x_gw (inT_0 _ (List.mem_of_getElem? (i := 216) (by decide +kernel))) rfl
theorem gw_217 : (Cond.selects "RelayHallModel" ⟨"RelayHallModel", "transaction", "(LRelayHallModel$Channel;I)V"⟩ ⟨"RelayHallModel", "transaction", "(LRelayHallModel$Channel;I)V"⟩) ∈ lw_G := x_gw (inT_0 _ (List.mem_of_getElem? (i := 217) (by decide +kernel))) rfl
theorem gw_223 : (Cond.selects "RelayHallModel" ⟨"RelayHallModel", "header", "(LRelayHallModel$Channel;)V"⟩ ⟨"RelayHallModel", "header", "(LRelayHallModel$Channel;)V"⟩) ∈ lw_G := x_gw (inT_0 _ (List.mem_of_getElem? (i := 223) (by decide +kernel))) rfl
theorem gw_225 : (Cond.selects "RelayHallModel" ⟨"RelayHallModel", "body", "(LRelayHallModel$Channel;)V"⟩ ⟨"RelayHallModel", "body", "(LRelayHallModel$Channel;)V"⟩) ∈ lw_G := x_gw (inT_0 _ (List.mem_of_getElem? (i := 225) (by decide +kernel))) rfl
theorem gw_226 : (Cond.selects "RelayHallModel" ⟨"RelayHallModel", "onClosing", "(LRelayHallModel$Connection;I)V"⟩ ⟨"RelayHallModel", "onClosing", "(LRelayHallModel$Connection;I)V"⟩) ∈ lw_G := x_gw (inT_0 _ (List.mem_of_getElem? (i := 226) (by decide +kernel))) rfl
theorem gw_227 : (Cond.selects "RelayHallModel" ⟨"RelayHallModel", "onGreeted", "(LRelayHallModel$Connection;II)V"⟩ ⟨"RelayHallModel", "onGreeted", "(LRelayHallModel$Connection;II)V"⟩) ∈ lw_G := x_gw (inT_0 _ (List.mem_of_getElem? (i := 227) (by decide +kernel))) rfl
theorem gw_241 : (Cond.initialized "RelayHall") ∈ lw_G := x_gw (inT_1 _ (List.mem_of_getElem? (i := 1) rfl)) rfl
theorem gw_242 : (Cond.initialized "RelayHall$Durable") ∈ lw_G := x_gw (inT_1 _ (List.mem_of_getElem? (i := 2) rfl)) rfl
theorem gw_243 : (Cond.initialized "RelayHall$Exchange") ∈ lw_G := x_gw (inT_1 _ (List.mem_of_getElem? (i := 3) rfl)) rfl
theorem gw_244 : (Cond.initialized "java/util/AbstractCollection") ∈ lw_G := x_gw (inT_1 _ (List.mem_of_getElem? (i := 4) rfl)) rfl
theorem gw_245 : (Cond.initialized "java/util/AbstractList") ∈ lw_G := x_gw (inT_1 _ (List.mem_of_getElem? (i := 5) rfl)) rfl
theorem gw_246 : (Cond.initialized "java/util/ArrayList") ∈ lw_G := x_gw (inT_1 _ (List.mem_of_getElem? (i := 6) rfl)) rfl
theorem gw_247 : (Cond.initialized "RelayHall$Log") ∈ lw_G := x_gw (inT_1 _ (List.mem_of_getElem? (i := 7) rfl)) rfl
theorem gw_248 : (Cond.initialized "RelayHall$Reader") ∈ lw_G := x_gw (inT_1 _ (List.mem_of_getElem? (i := 8) rfl)) rfl
theorem gw_249 : (Cond.initialized "java/lang/AbstractStringBuilder") ∈ lw_G := x_gw (inT_1 _ (List.mem_of_getElem? (i := 9) rfl)) rfl
theorem gw_250 : (Cond.initialized "java/lang/StringBuilder") ∈ lw_G := x_gw (inT_1 _ (List.mem_of_getElem? (i := 10) rfl)) rfl
theorem gw_251 : (Cond.initialized "java/lang/String") ∈ lw_G := x_gw (inT_1 _ (List.mem_of_getElem? (i := 11) rfl)) rfl
theorem gw_252 : (Cond.initialized "java/lang/StringUTF16") ∈ lw_G := x_gw (inT_1 _ (List.mem_of_getElem? (i := 12) rfl)) rfl
theorem gw_253 : (Cond.initialized "RelayHall$Connection") ∈ lw_G := x_gw (inT_1 _ (List.mem_of_getElem? (i := 13) rfl)) rfl
theorem gw_254 : (Cond.initialized "RelayHall$Channel") ∈ lw_G := x_gw (inT_1 _ (List.mem_of_getElem? (i := 14) rfl)) rfl
theorem gw_255 : (Cond.initialized "RelayHallModel") ∈ lw_G := x_gw (inT_1 _ (List.mem_of_getElem? (i := 15) rfl)) rfl
theorem gw_256 : (Cond.initialized "RelayHallModel$Connection") ∈ lw_G := x_gw (inT_1 _ (List.mem_of_getElem? (i := 16) rfl)) rfl
theorem gw_257 : (Cond.initialized "RelayHallModel$Channel") ∈ lw_G := x_gw (inT_1 _ (List.mem_of_getElem? (i := 17) rfl)) rfl
theorem gw_258 : (Cond.initialized "jdk/internal/util/ArraysSupport") ∈ lw_G := x_gw (inT_1 _ (List.mem_of_getElem? (i := 18) rfl)) rfl
theorem gw_259 : (Cond.initialized "java/lang/Math") ∈ lw_G := x_gw (inT_1 _ (List.mem_of_getElem? (i := 19) rfl)) rfl
theorem gw_260 : (Cond.initialized "java/util/Arrays") ∈ lw_G := x_gw (inT_1 _ (List.mem_of_getElem? (i := 20) rfl)) rfl
theorem gw_262 : (Cond.initialized "jdk/internal/util/Preconditions") ∈ lw_G := x_gw (inT_1 _ (List.mem_of_getElem? (i := 22) rfl)) rfl
theorem gw_263 : (Cond.initialized "RelayHall$Table") ∈ lw_G := x_gw (inT_1 _ (List.mem_of_getElem? (i := 23) rfl)) rfl
theorem gw_264 : (Cond.initialized "java/lang/StringLatin1") ∈ lw_G := x_gw (inT_1 _ (List.mem_of_getElem? (i := 24) rfl)) rfl
theorem gw_271 : (Cond.initialized "java/util/Objects") ∈ lw_G := x_gw (inT_1 _ (List.mem_of_getElem? (i := 31) rfl)) rfl
theorem gw_278 : (Cond.initialized "RelayHall$Message") ∈ lw_G := x_gw (inT_1 _ (List.mem_of_getElem? (i := 38) rfl)) rfl
theorem gw_284 : (Cond.initialized "RelayHallModel$Table") ∈ lw_G := x_gw (inT_1 _ (List.mem_of_getElem? (i := 44) rfl)) rfl
theorem gw_292 : (Cond.classLink "RelayHallLaw" 8 "RelayHall") ∈ lw_G := x_gw (inT_1 _ (List.mem_of_getElem? (i := 52) rfl)) rfl
theorem gw_293 : (Cond.instantiable "RelayHall" 21) ∈ lw_G := x_gw (inT_1 _ (List.mem_of_getElem? (i := 53) rfl)) rfl
theorem gw_294 : (Cond.methodLink "RelayHallLaw" 26 ⟨"RelayHall", "<init>", "()V"⟩) ∈ lw_G := x_gw (inT_1 _ (List.mem_of_getElem? (i := 54) rfl)) rfl
theorem gw_295 : (Cond.instanceMethod ⟨"RelayHall", "<init>", "()V"⟩) ∈ lw_G := x_gw (inT_1 _ (List.mem_of_getElem? (i := 55) rfl)) rfl
theorem gw_296 : (Cond.code ⟨"RelayHall", "<init>", "()V"⟩ prog_1_method_1_code 4 none) ∈ lw_G := x_gw (inT_1 _ (List.mem_of_getElem? (i := 56) rfl)) rfl
theorem gw_297 : (Cond.methodLink "RelayHall" 1 ⟨"java/lang/Object", "<init>", "()V"⟩) ∈ lw_G := x_gw (inT_1 _ (List.mem_of_getElem? (i := 57) rfl)) rfl
theorem gw_298 : (Cond.instanceMethod ⟨"java/lang/Object", "<init>", "()V"⟩) ∈ lw_G := x_gw (inT_1 _ (List.mem_of_getElem? (i := 58) rfl)) rfl
theorem gw_299 : (Cond.code ⟨"java/lang/Object", "<init>", "()V"⟩ object_method_1_code 1 none) ∈ lw_G := x_gw (inT_1 _ (List.mem_of_getElem? (i := 59) rfl)) rfl
theorem gw_300 : (Cond.classLink "RelayHall" 17 "RelayHall$Connection") ∈ lw_G := x_gw (inT_1 _ (List.mem_of_getElem? (i := 60) rfl)) rfl
theorem gw_302 : (Cond.classLink "RelayHall" 23 "RelayHall$Exchange") ∈ lw_G := x_gw (inT_1 _ (List.mem_of_getElem? (i := 62) rfl)) rfl
theorem gw_303 : (Cond.instantiable "RelayHall$Exchange" 8) ∈ lw_G := x_gw (inT_1 _ (List.mem_of_getElem? (i := 63) rfl)) rfl
theorem gw_305 : (Cond.methodLink "RelayHall" 27 ⟨"RelayHall$Exchange", "<init>", "(Ljava/lang/String;IILjava/lang/String;)V"⟩) ∈ lw_G := x_gw (inT_1 _ (List.mem_of_getElem? (i := 65) rfl)) rfl
theorem gw_306 : (Cond.instanceMethod ⟨"RelayHall$Exchange", "<init>", "(Ljava/lang/String;IILjava/lang/String;)V"⟩) ∈ lw_G := x_gw (inT_1 _ (List.mem_of_getElem? (i := 66) rfl)) rfl
theorem gw_307 : (Cond.code ⟨"RelayHall$Exchange", "<init>", "(Ljava/lang/String;IILjava/lang/String;)V"⟩ prog_7_method_1_code 5 none) ∈ lw_G := x_gw (inT_1 _ (List.mem_of_getElem? (i := 67) rfl)) rfl
theorem gw_309 : (Cond.instanceMethod ⟨"RelayHall$Durable", "<init>", "()V"⟩) ∈ lw_G := x_gw (inT_1 _ (List.mem_of_getElem? (i := 69) rfl)) rfl
theorem gw_310 : (Cond.code ⟨"RelayHall$Durable", "<init>", "()V"⟩ prog_6_method_1_code 1 none) ∈ lw_G := x_gw (inT_1 _ (List.mem_of_getElem? (i := 70) rfl)) rfl
theorem gw_311 : (Cond.methodLink "RelayHall$Durable" 1 ⟨"java/lang/Object", "<init>", "()V"⟩) ∈ lw_G := x_gw (inT_1 _ (List.mem_of_getElem? (i := 71) rfl)) rfl
theorem gw_312 : (Cond.fieldLink "RelayHall$Exchange" 9 "RelayHall$Exchange" "name" "Ljava/lang/String;") ∈ lw_G := x_gw (inT_1 _ (List.mem_of_getElem? (i := 72) rfl)) rfl
theorem gw_314 : (Cond.fieldLink "RelayHall$Exchange" 15 "RelayHall$Exchange" "kind" "I") ∈ lw_G := x_gw (inT_1 _ (List.mem_of_getElem? (i := 74) rfl)) rfl
theorem gw_317 : (Cond.fieldLink "RelayHall$Exchange" 19 "RelayHall$Exchange" "bits" "I") ∈ lw_G := x_gw (inT_1 _ (List.mem_of_getElem? (i := 77) rfl)) rfl
theorem gw_319 : (Cond.fieldLink "RelayHall$Exchange" 22 "RelayHall$Exchange" "alternate" "Ljava/lang/String;") ∈ lw_G := x_gw (inT_1 _ (List.mem_of_getElem? (i := 79) rfl)) rfl
theorem gw_321 : (Cond.fieldLink "RelayHall$Exchange" 25 "RelayHall$Exchange" "durable" "Z") ∈ lw_G := x_gw (inT_1 _ (List.mem_of_getElem? (i := 81) rfl)) rfl
theorem gw_324 : (Cond.fieldLink "RelayHall$Exchange" 29 "RelayHall$Exchange" "autoDelete" "Z") ∈ lw_G := x_gw (inT_1 _ (List.mem_of_getElem? (i := 84) rfl)) rfl
theorem gw_326 : (Cond.fieldLink "RelayHall$Exchange" 32 "RelayHall$Exchange" "internal" "Z") ∈ lw_G := x_gw (inT_1 _ (List.mem_of_getElem? (i := 86) rfl)) rfl
theorem gw_328 : (Cond.fieldLink "RelayHall$Durable" 7 "RelayHall$Durable" "safe" "Z") ∈ lw_G := x_gw (inT_1 _ (List.mem_of_getElem? (i := 88) rfl)) rfl
theorem gw_347 : (Cond.arrayClass .byte) ∈ lw_G := x_gw (inT_1 _ (List.mem_of_getElem? (i := 107) rfl)) rfl
theorem gw_348 : (Cond.classLink "RelayHall" 34 "java/util/ArrayList") ∈ lw_G := x_gw (inT_1 _ (List.mem_of_getElem? (i := 108) rfl)) rfl
theorem gw_349 : (Cond.instantiable "java/util/ArrayList" 3) ∈ lw_G := x_gw (inT_1 _ (List.mem_of_getElem? (i := 109) rfl)) rfl
theorem gw_350 : (Cond.methodLink "RelayHall" 36 ⟨"java/util/ArrayList", "<init>", "()V"⟩) ∈ lw_G := x_gw (inT_1 _ (List.mem_of_getElem? (i := 110) rfl)) rfl
theorem gw_351 : (Cond.instanceMethod ⟨"java/util/ArrayList", "<init>", "()V"⟩) ∈ lw_G := x_gw (inT_1 _ (List.mem_of_getElem? (i := 111) rfl)) rfl
theorem gw_352 : (Cond.code ⟨"java/util/ArrayList", "<init>", "()V"⟩ prog_50_method_2_code 1 none) ∈ lw_G := x_gw (inT_1 _ (List.mem_of_getElem? (i := 112) rfl)) rfl
theorem gw_353 : (Cond.methodLink "java/util/ArrayList" 1 ⟨"java/util/AbstractList", "<init>", "()V"⟩) ∈ lw_G := x_gw (inT_1 _ (List.mem_of_getElem? (i := 113) rfl)) rfl
theorem gw_354 : (Cond.instanceMethod ⟨"java/util/AbstractList", "<init>", "()V"⟩) ∈ lw_G := x_gw (inT_1 _ (List.mem_of_getElem? (i := 114) rfl)) rfl
theorem gw_355 : (Cond.code ⟨"java/util/AbstractList", "<init>", "()V"⟩ prog_49_method_1_code 1 none) ∈ lw_G := x_gw (inT_1 _ (List.mem_of_getElem? (i := 115) rfl)) rfl
theorem gw_356 : (Cond.methodLink "java/util/AbstractList" 1 ⟨"java/util/AbstractCollection", "<init>", "()V"⟩) ∈ lw_G := x_gw (inT_1 _ (List.mem_of_getElem? (i := 116) rfl)) rfl
theorem gw_357 : (Cond.instanceMethod ⟨"java/util/AbstractCollection", "<init>", "()V"⟩) ∈ lw_G := x_gw (inT_1 _ (List.mem_of_getElem? (i := 117) rfl)) rfl
theorem gw_358 : (Cond.code ⟨"java/util/AbstractCollection", "<init>", "()V"⟩ prog_48_method_1_code 1 none) ∈ lw_G := x_gw (inT_1 _ (List.mem_of_getElem? (i := 118) rfl)) rfl
theorem gw_359 : (Cond.methodLink "java/util/AbstractCollection" 1 ⟨"java/lang/Object", "<init>", "()V"⟩) ∈ lw_G := x_gw (inT_1 _ (List.mem_of_getElem? (i := 119) rfl)) rfl
theorem gw_360 : (Cond.fieldLink "java/util/ArrayList" 39 "java/util/ArrayList" "DEFAULTCAPACITY_EMPTY_ELEMENTDATA" "[Ljava/lang/Object;") ∈ lw_G := x_gw (inT_1 _ (List.mem_of_getElem? (i := 120) rfl)) rfl
theorem gw_362 : (Cond.fieldLink "java/util/ArrayList" 9 "java/util/ArrayList" "elementData" "[Ljava/lang/Object;") ∈ lw_G := x_gw (inT_1 _ (List.mem_of_getElem? (i := 122) rfl)) rfl
theorem gw_363 : (Cond.fieldLink "java/util/ArrayList" 48 "java/util/ArrayList" "size" "I") ∈ lw_G := x_gw (inT_1 _ (List.mem_of_getElem? (i := 123) rfl)) rfl
theorem gw_364 : (Cond.fieldLink "java/util/AbstractList" 7 "java/util/AbstractList" "modCount" "I") ∈ lw_G := x_gw (inT_1 _ (List.mem_of_getElem? (i := 124) rfl)) rfl
theorem gw_365 : (Cond.fieldLink "java/util/ArrayList" 63 "java/util/ArrayList" "modCount" "I") ∈ lw_G := x_gw (inT_1 _ (List.mem_of_getElem? (i := 125) rfl)) rfl
theorem gw_366 : (Cond.sameField "java/util/ArrayList" "java/util/AbstractList" "modCount" "I") ∈ lw_G := x_gw (inT_1 _ (List.mem_of_getElem? (i := 126) rfl)) rfl
theorem gw_374 : (Cond.classLink "RelayHall" 59 "RelayHall$Log") ∈ lw_G := x_gw (inT_1 _ (List.mem_of_getElem? (i := 134) rfl)) rfl
theorem gw_375 : (Cond.instantiable "RelayHall$Log" 2) ∈ lw_G := x_gw (inT_1 _ (List.mem_of_getElem? (i := 135) rfl)) rfl
theorem gw_377 : (Cond.instanceMethod ⟨"RelayHall$Log", "<init>", "()V"⟩) ∈ lw_G := x_gw (inT_1 _ (List.mem_of_getElem? (i := 137) rfl)) rfl
theorem gw_378 : (Cond.code ⟨"RelayHall$Log", "<init>", "()V"⟩ prog_8_method_1_code 1 none) ∈ lw_G := x_gw (inT_1 _ (List.mem_of_getElem? (i := 138) rfl)) rfl
theorem gw_379 : (Cond.methodLink "RelayHall$Log" 1 ⟨"java/lang/Object", "<init>", "()V"⟩) ∈ lw_G := x_gw (inT_1 _ (List.mem_of_getElem? (i := 139) rfl)) rfl
theorem gw_380 : (Cond.classLink "RelayHall$Log" 7 "java/util/ArrayList") ∈ lw_G := x_gw (inT_1 _ (List.mem_of_getElem? (i := 140) rfl)) rfl
theorem gw_381 : (Cond.methodLink "RelayHall$Log" 9 ⟨"java/util/ArrayList", "<init>", "()V"⟩) ∈ lw_G := x_gw (inT_1 _ (List.mem_of_getElem? (i := 141) rfl)) rfl
theorem gw_382 : (Cond.fieldLink "RelayHall$Log" 10 "RelayHall$Log" "pending" "Ljava/util/ArrayList;") ∈ lw_G := x_gw (inT_1 _ (List.mem_of_getElem? (i := 142) rfl)) rfl
theorem gw_384 : (Cond.fieldLink "RelayHall$Log" 16 "RelayHall$Log" "things" "Ljava/util/ArrayList;") ∈ lw_G := x_gw (inT_1 _ (List.mem_of_getElem? (i := 144) rfl)) rfl
theorem gw_391 : (Cond.classLink "RelayHall" 66 "RelayHall$Reader") ∈ lw_G := x_gw (inT_1 _ (List.mem_of_getElem? (i := 151) rfl)) rfl
theorem gw_392 : (Cond.instantiable "RelayHall$Reader" 4) ∈ lw_G := x_gw (inT_1 _ (List.mem_of_getElem? (i := 152) rfl)) rfl
theorem gw_394 : (Cond.instanceMethod ⟨"RelayHall$Reader", "<init>", "()V"⟩) ∈ lw_G := x_gw (inT_1 _ (List.mem_of_getElem? (i := 154) rfl)) rfl
theorem gw_395 : (Cond.code ⟨"RelayHall$Reader", "<init>", "()V"⟩ prog_11_method_1_code 1 none) ∈ lw_G := x_gw (inT_1 _ (List.mem_of_getElem? (i := 155) rfl)) rfl
theorem gw_396 : (Cond.methodLink "RelayHall$Reader" 3 ⟨"java/lang/Object", "<init>", "()V"⟩) ∈ lw_G := x_gw (inT_1 _ (List.mem_of_getElem? (i := 156) rfl)) rfl
theorem gw_397 : (Cond.fieldLink "RelayHall$Reader" 9 "RelayHall$Reader" "bytes" "[B") ∈ lw_G := x_gw (inT_1 _ (List.mem_of_getElem? (i := 157) rfl)) rfl
theorem gw_398 : (Cond.fieldLink "RelayHall$Reader" 15 "RelayHall$Reader" "at" "I") ∈ lw_G := x_gw (inT_1 _ (List.mem_of_getElem? (i := 158) rfl)) rfl
theorem gw_399 : (Cond.fieldLink "RelayHall$Reader" 19 "RelayHall$Reader" "end" "I") ∈ lw_G := x_gw (inT_1 _ (List.mem_of_getElem? (i := 159) rfl)) rfl
theorem gw_400 : (Cond.fieldLink "RelayHall$Reader" 22 "RelayHall$Reader" "wrong" "Z") ∈ lw_G := x_gw (inT_1 _ (List.mem_of_getElem? (i := 160) rfl)) rfl
theorem gw_410 : (Cond.classLink "RelayHall" 73 "java/lang/StringBuilder") ∈ lw_G := x_gw (inT_1 _ (List.mem_of_getElem? (i := 170) rfl)) rfl
theorem gw_411 : (Cond.instantiable "java/lang/StringBuilder" 4) ∈ lw_G := x_gw (inT_1 _ (List.mem_of_getElem? (i := 171) rfl)) rfl
theorem gw_412 : (Cond.methodLink "RelayHall" 75 ⟨"java/lang/StringBuilder", "<init>", "()V"⟩) ∈ lw_G := x_gw (inT_1 _ (List.mem_of_getElem? (i := 172) rfl)) rfl
theorem gw_413 : (Cond.instanceMethod ⟨"java/lang/StringBuilder", "<init>", "()V"⟩) ∈ lw_G := x_gw (inT_1 _ (List.mem_of_getElem? (i := 173) rfl)) rfl
theorem gw_414 : (Cond.code ⟨"java/lang/StringBuilder", "<init>", "()V"⟩ prog_42_method_1_code 1 none) ∈ lw_G := x_gw (inT_1 _ (List.mem_of_getElem? (i := 174) rfl)) rfl
theorem gw_415 : (Cond.methodLink "java/lang/StringBuilder" 1 ⟨"java/lang/AbstractStringBuilder", "<init>", "(I)V"⟩) ∈ lw_G := x_gw (inT_1 _ (List.mem_of_getElem? (i := 175) rfl)) rfl
theorem gw_416 : (Cond.instanceMethod ⟨"java/lang/AbstractStringBuilder", "<init>", "(I)V"⟩) ∈ lw_G := x_gw (inT_1 _ (List.mem_of_getElem? (i := 176) rfl)) rfl
theorem gw_417 : (Cond.code ⟨"java/lang/AbstractStringBuilder", "<init>", "(I)V"⟩ prog_29_method_2_code 2 none) ∈ lw_G := x_gw (inT_1 _ (List.mem_of_getElem? (i := 177) rfl)) rfl
theorem gw_418 : (Cond.methodLink "java/lang/AbstractStringBuilder" 3 ⟨"java/lang/Object", "<init>", "()V"⟩) ∈ lw_G := x_gw (inT_1 _ (List.mem_of_getElem? (i := 178) rfl)) rfl
theorem gw_419 : (Cond.fieldLink "java/lang/AbstractStringBuilder" 18 "java/lang/String" "COMPACT_STRINGS" "Z") ∈ lw_G := x_gw (inT_1 _ (List.mem_of_getElem? (i := 179) rfl)) rfl
theorem gw_421 : (Cond.methodLink "java/lang/AbstractStringBuilder" 26 ⟨"java/lang/StringUTF16", "newBytesFor", "(I)[B"⟩) ∈ lw_G := x_gw (inT_1 _ (List.mem_of_getElem? (i := 181) rfl)) rfl
theorem gw_422 : (Cond.static ⟨"java/lang/StringUTF16", "newBytesFor", "(I)[B"⟩) ∈ lw_G := x_gw (inT_1 _ (List.mem_of_getElem? (i := 182) rfl)) rfl
theorem gw_423 : (Cond.code ⟨"java/lang/StringUTF16", "newBytesFor", "(I)[B"⟩ prog_45_method_2_code 1 (some (.array .byte))) ∈ lw_G := x_gw (inT_1 _ (List.mem_of_getElem? (i := 183) rfl)) rfl
theorem gw_428 : (Cond.fieldLink "java/lang/AbstractStringBuilder" 15 "java/lang/AbstractStringBuilder" "value" "[B") ∈ lw_G := x_gw (inT_1 _ (List.mem_of_getElem? (i := 188) rfl)) rfl
theorem gw_429 : (Cond.fieldLink "java/lang/AbstractStringBuilder" 22 "java/lang/AbstractStringBuilder" "coder" "B") ∈ lw_G := x_gw (inT_1 _ (List.mem_of_getElem? (i := 189) rfl)) rfl
theorem gw_442 : (Cond.instantiable "RelayHall$Connection" 14) ∈ lw_G := x_gw (inT_1 _ (List.mem_of_getElem? (i := 202) rfl)) rfl
theorem gw_444 : (Cond.instanceMethod ⟨"RelayHall$Connection", "<init>", "()V"⟩) ∈ lw_G := x_gw (inT_1 _ (List.mem_of_getElem? (i := 204) rfl)) rfl
theorem gw_445 : (Cond.code ⟨"RelayHall$Connection", "<init>", "()V"⟩ prog_4_method_1_code 1 none) ∈ lw_G := x_gw (inT_1 _ (List.mem_of_getElem? (i := 205) rfl)) rfl
theorem gw_446 : (Cond.methodLink "RelayHall$Connection" 3 ⟨"java/lang/Object", "<init>", "()V"⟩) ∈ lw_G := x_gw (inT_1 _ (List.mem_of_getElem? (i := 206) rfl)) rfl
theorem gw_447 : (Cond.classLink "RelayHall$Connection" 9 "RelayHall$Channel") ∈ lw_G := x_gw (inT_1 _ (List.mem_of_getElem? (i := 207) rfl)) rfl
theorem gw_449 : (Cond.fieldLink "RelayHall$Connection" 11 "RelayHall$Connection" "channels" "[LRelayHall$Channel;") ∈ lw_G := x_gw (inT_1 _ (List.mem_of_getElem? (i := 209) rfl)) rfl
theorem gw_450 : (Cond.fieldLink "RelayHall" 102 "RelayHall$Connection" "channels" "[LRelayHall$Channel;") ∈ lw_G := x_gw (inT_1 _ (List.mem_of_getElem? (i := 210) rfl)) rfl
theorem gw_451 : (Cond.fieldLink "RelayHall$Connection" 17 "RelayHall$Connection" "state" "I") ∈ lw_G := x_gw (inT_1 _ (List.mem_of_getElem? (i := 211) rfl)) rfl
theorem gw_452 : (Cond.fieldLink "RelayHall" 115 "RelayHall$Connection" "state" "I") ∈ lw_G := x_gw (inT_1 _ (List.mem_of_getElem? (i := 212) rfl)) rfl
theorem gw_453 : (Cond.fieldLink "RelayHall$Connection" 21 "RelayHall$Connection" "heartbeat" "I") ∈ lw_G := x_gw (inT_1 _ (List.mem_of_getElem? (i := 213) rfl)) rfl
theorem gw_454 : (Cond.fieldLink "RelayHall" 201 "RelayHall$Connection" "heartbeat" "I") ∈ lw_G := x_gw (inT_1 _ (List.mem_of_getElem? (i := 214) rfl)) rfl
theorem gw_455 : (Cond.fieldLink "RelayHall$Connection" 24 "RelayHall$Connection" "lastIn" "I") ∈ lw_G := x_gw (inT_1 _ (List.mem_of_getElem? (i := 215) rfl)) rfl
theorem gw_456 : (Cond.fieldLink "RelayHall" 122 "RelayHall$Connection" "lastIn" "I") ∈ lw_G := x_gw (inT_1 _ (List.mem_of_getElem? (i := 216) rfl)) rfl
theorem gw_457 : (Cond.fieldLink "RelayHall$Connection" 27 "RelayHall$Connection" "lastOut" "I") ∈ lw_G := x_gw (inT_1 _ (List.mem_of_getElem? (i := 217) rfl)) rfl
theorem gw_458 : (Cond.fieldLink "RelayHall" 323 "RelayHall$Connection" "lastOut" "I") ∈ lw_G := x_gw (inT_1 _ (List.mem_of_getElem? (i := 218) rfl)) rfl
theorem gw_459 : (Cond.fieldLink "RelayHall$Connection" 30 "RelayHall$Connection" "closingSince" "I") ∈ lw_G := x_gw (inT_1 _ (List.mem_of_getElem? (i := 219) rfl)) rfl
theorem gw_460 : (Cond.fieldLink "RelayHall" 359 "RelayHall$Connection" "closingSince" "I") ∈ lw_G := x_gw (inT_1 _ (List.mem_of_getElem? (i := 220) rfl)) rfl
theorem gw_461 : (Cond.fieldLink "RelayHall$Connection" 33 "RelayHall$Connection" "in" "[B") ∈ lw_G := x_gw (inT_1 _ (List.mem_of_getElem? (i := 221) rfl)) rfl
theorem gw_462 : (Cond.fieldLink "RelayHall" 133 "RelayHall$Connection" "in" "[B") ∈ lw_G := x_gw (inT_1 _ (List.mem_of_getElem? (i := 222) rfl)) rfl
theorem gw_463 : (Cond.fieldLink "RelayHall$Connection" 37 "RelayHall$Connection" "inLength" "I") ∈ lw_G := x_gw (inT_1 _ (List.mem_of_getElem? (i := 223) rfl)) rfl
theorem gw_464 : (Cond.fieldLink "RelayHall" 145 "RelayHall$Connection" "inLength" "I") ∈ lw_G := x_gw (inT_1 _ (List.mem_of_getElem? (i := 224) rfl)) rfl
theorem gw_465 : (Cond.fieldLink "RelayHall$Connection" 40 "RelayHall$Connection" "deaf" "Z") ∈ lw_G := x_gw (inT_1 _ (List.mem_of_getElem? (i := 225) rfl)) rfl
theorem gw_467 : (Cond.fieldLink "RelayHall$Connection" 44 "RelayHall$Connection" "out" "[B") ∈ lw_G := x_gw (inT_1 _ (List.mem_of_getElem? (i := 227) rfl)) rfl
theorem gw_468 : (Cond.fieldLink "RelayHall$Connection" 47 "RelayHall$Connection" "outStart" "I") ∈ lw_G := x_gw (inT_1 _ (List.mem_of_getElem? (i := 228) rfl)) rfl
theorem gw_469 : (Cond.fieldLink "RelayHall$Connection" 50 "RelayHall$Connection" "outLength" "I") ∈ lw_G := x_gw (inT_1 _ (List.mem_of_getElem? (i := 229) rfl)) rfl
theorem gw_471 : (Cond.fieldLink "RelayHall$Connection" 53 "RelayHall$Connection" "drafted" "I") ∈ lw_G := x_gw (inT_1 _ (List.mem_of_getElem? (i := 231) rfl)) rfl
theorem gw_472 : (Cond.fieldLink "RelayHall" 317 "RelayHall$Connection" "drafted" "I") ∈ lw_G := x_gw (inT_1 _ (List.mem_of_getElem? (i := 232) rfl)) rfl
theorem gw_473 : (Cond.fieldLink "RelayHall$Connection" 56 "RelayHall$Connection" "frameAt" "I") ∈ lw_G := x_gw (inT_1 _ (List.mem_of_getElem? (i := 233) rfl)) rfl
theorem gw_503 : (Cond.classLink "RelayHall" 106 "RelayHall$Channel") ∈ lw_G := x_gw (inT_2 _ (List.mem_of_getElem? (i := 23) rfl)) rfl
theorem gw_504 : (Cond.instantiable "RelayHall$Channel" 20) ∈ lw_G := x_gw (inT_2 _ (List.mem_of_getElem? (i := 24) rfl)) rfl
theorem gw_505 : (Cond.methodLink "RelayHall" 108 ⟨"RelayHall$Channel", "<init>", "(LRelayHall$Connection;I)V"⟩) ∈ lw_G := x_gw (inT_2 _ (List.mem_of_getElem? (i := 25) rfl)) rfl
theorem gw_506 : (Cond.instanceMethod ⟨"RelayHall$Channel", "<init>", "(LRelayHall$Connection;I)V"⟩) ∈ lw_G := x_gw (inT_2 _ (List.mem_of_getElem? (i := 26) rfl)) rfl
theorem gw_507 : (Cond.code ⟨"RelayHall$Channel", "<init>", "(LRelayHall$Connection;I)V"⟩ prog_3_method_1_code 3 none) ∈ lw_G := x_gw (inT_2 _ (List.mem_of_getElem? (i := 27) rfl)) rfl
theorem gw_508 : (Cond.methodLink "RelayHall$Channel" 3 ⟨"java/lang/Object", "<init>", "()V"⟩) ∈ lw_G := x_gw (inT_2 _ (List.mem_of_getElem? (i := 28) rfl)) rfl
theorem gw_510 : (Cond.classLink "RelayHall$Channel" 53 "java/util/ArrayList") ∈ lw_G := x_gw (inT_2 _ (List.mem_of_getElem? (i := 30) rfl)) rfl
theorem gw_511 : (Cond.methodLink "RelayHall$Channel" 55 ⟨"java/util/ArrayList", "<init>", "()V"⟩) ∈ lw_G := x_gw (inT_2 _ (List.mem_of_getElem? (i := 31) rfl)) rfl
theorem gw_512 : (Cond.classLink "RelayHall$Channel" 70 "RelayHall$Message") ∈ lw_G := x_gw (inT_2 _ (List.mem_of_getElem? (i := 32) rfl)) rfl
theorem gw_514 : (Cond.fieldLink "RelayHall$Channel" 79 "RelayHall$Channel" "connection" "LRelayHall$Connection;") ∈ lw_G := x_gw (inT_2 _ (List.mem_of_getElem? (i := 34) rfl)) rfl
theorem gw_515 : (Cond.fieldLink "RelayHall" 329 "RelayHall$Channel" "connection" "LRelayHall$Connection;") ∈ lw_G := x_gw (inT_2 _ (List.mem_of_getElem? (i := 35) rfl)) rfl
theorem gw_516 : (Cond.fieldLink "RelayHall$Channel" 83 "RelayHall$Channel" "number" "I") ∈ lw_G := x_gw (inT_2 _ (List.mem_of_getElem? (i := 36) rfl)) rfl
theorem gw_517 : (Cond.fieldLink "RelayHall" 333 "RelayHall$Channel" "number" "I") ∈ lw_G := x_gw (inT_2 _ (List.mem_of_getElem? (i := 37) rfl)) rfl
theorem gw_518 : (Cond.fieldLink "RelayHall$Channel" 9 "RelayHall$Channel" "state" "I") ∈ lw_G := x_gw (inT_2 _ (List.mem_of_getElem? (i := 38) rfl)) rfl
theorem gw_520 : (Cond.fieldLink "RelayHall" 207 "RelayHall$Channel" "state" "I") ∈ lw_G := x_gw (inT_2 _ (List.mem_of_getElem? (i := 40) rfl)) rfl
theorem gw_521 : (Cond.fieldLink "RelayHall$Channel" 15 "RelayHall$Channel" "mode" "I") ∈ lw_G := x_gw (inT_2 _ (List.mem_of_getElem? (i := 41) rfl)) rfl
theorem gw_523 : (Cond.fieldLink "RelayHall$Channel" 18 "RelayHall$Channel" "active" "Z") ∈ lw_G := x_gw (inT_2 _ (List.mem_of_getElem? (i := 43) rfl)) rfl
theorem gw_526 : (Cond.fieldLink "RelayHall$Channel" 22 "RelayHall$Channel" "limit" "I") ∈ lw_G := x_gw (inT_2 _ (List.mem_of_getElem? (i := 46) rfl)) rfl
theorem gw_529 : (Cond.fieldLink "RelayHall$Channel" 25 "RelayHall$Channel" "consumerLimit" "I") ∈ lw_G := x_gw (inT_2 _ (List.mem_of_getElem? (i := 49) rfl)) rfl
theorem gw_532 : (Cond.fieldLink "RelayHall$Channel" 28 "RelayHall$Channel" "lastTag" "I") ∈ lw_G := x_gw (inT_2 _ (List.mem_of_getElem? (i := 52) rfl)) rfl
theorem gw_534 : (Cond.fieldLink "RelayHall$Channel" 31 "RelayHall$Channel" "lastMadeTag" "I") ∈ lw_G := x_gw (inT_2 _ (List.mem_of_getElem? (i := 54) rfl)) rfl
theorem gw_536 : (Cond.fieldLink "RelayHall$Channel" 34 "RelayHall$Channel" "lastConfirm" "I") ∈ lw_G := x_gw (inT_2 _ (List.mem_of_getElem? (i := 56) rfl)) rfl
theorem gw_538 : (Cond.fieldLink "RelayHall$Channel" 39 "RelayHall$Channel" "lastQueue" "Ljava/lang/String;") ∈ lw_G := x_gw (inT_2 _ (List.mem_of_getElem? (i := 58) rfl)) rfl
theorem gw_539 : (Cond.fieldLink "RelayHall" 631 "RelayHall$Channel" "lastQueue" "Ljava/lang/String;") ∈ lw_G := x_gw (inT_2 _ (List.mem_of_getElem? (i := 59) rfl)) rfl
theorem gw_540 : (Cond.fieldLink "RelayHall$Channel" 43 "RelayHall$Channel" "due" "I") ∈ lw_G := x_gw (inT_2 _ (List.mem_of_getElem? (i := 60) rfl)) rfl
theorem gw_541 : (Cond.fieldLink "RelayHall" 491 "RelayHall$Channel" "due" "I") ∈ lw_G := x_gw (inT_2 _ (List.mem_of_getElem? (i := 61) rfl)) rfl
theorem gw_542 : (Cond.fieldLink "RelayHall$Channel" 46 "RelayHall$Channel" "content" "LRelayHall$Message;") ∈ lw_G := x_gw (inT_2 _ (List.mem_of_getElem? (i := 62) rfl)) rfl
theorem gw_544 : (Cond.fieldLink "RelayHall$Channel" 50 "RelayHall$Channel" "filled" "I") ∈ lw_G := x_gw (inT_2 _ (List.mem_of_getElem? (i := 64) rfl)) rfl
theorem gw_546 : (Cond.fieldLink "RelayHall$Channel" 56 "RelayHall$Channel" "unacked" "Ljava/util/ArrayList;") ∈ lw_G := x_gw (inT_2 _ (List.mem_of_getElem? (i := 66) rfl)) rfl
theorem gw_547 : (Cond.fieldLink "RelayHall" 208 "RelayHall$Channel" "unacked" "Ljava/util/ArrayList;") ∈ lw_G := x_gw (inT_2 _ (List.mem_of_getElem? (i := 67) rfl)) rfl
theorem gw_548 : (Cond.fieldLink "RelayHall$Channel" 60 "RelayHall$Channel" "unackedOfConsumers" "I") ∈ lw_G := x_gw (inT_2 _ (List.mem_of_getElem? (i := 68) rfl)) rfl
theorem gw_551 : (Cond.fieldLink "RelayHall$Channel" 63 "RelayHall$Channel" "kept" "I") ∈ lw_G := x_gw (inT_2 _ (List.mem_of_getElem? (i := 71) rfl)) rfl
theorem gw_553 : (Cond.fieldLink "RelayHall$Channel" 66 "RelayHall$Channel" "keptKinds" "[I") ∈ lw_G := x_gw (inT_2 _ (List.mem_of_getElem? (i := 73) rfl)) rfl
theorem gw_555 : (Cond.fieldLink "RelayHall$Channel" 72 "RelayHall$Channel" "keptMessages" "[LRelayHall$Message;") ∈ lw_G := x_gw (inT_2 _ (List.mem_of_getElem? (i := 75) rfl)) rfl
theorem gw_557 : (Cond.fieldLink "RelayHall$Channel" 76 "RelayHall$Channel" "confirmsDue" "Ljava/util/ArrayList;") ∈ lw_G := x_gw (inT_2 _ (List.mem_of_getElem? (i := 77) rfl)) rfl
theorem gw_600 : (Cond.arrayClass .int) ∈ lw_G := x_gw (inT_2 _ (List.mem_of_getElem? (i := 120) rfl)) rfl
theorem gw_601 : (Cond.fieldLink "RelayHall" 9 "RelayHall" "tape" "[B") ∈ lw_G := x_gw (inT_2 _ (List.mem_of_getElem? (i := 121) rfl)) rfl
theorem gw_602 : (Cond.fieldLink "RelayHall" 13 "RelayHall" "tapeLength" "I") ∈ lw_G := x_gw (inT_2 _ (List.mem_of_getElem? (i := 122) rfl)) rfl
theorem gw_603 : (Cond.fieldLink "RelayHall" 19 "RelayHall" "connections" "[LRelayHall$Connection;") ∈ lw_G := x_gw (inT_2 _ (List.mem_of_getElem? (i := 123) rfl)) rfl
theorem gw_604 : (Cond.fieldLink "RelayHall" 30 "RelayHall" "defaultExchange" "LRelayHall$Exchange;") ∈ lw_G := x_gw (inT_2 _ (List.mem_of_getElem? (i := 124) rfl)) rfl
theorem gw_605 : (Cond.fieldLink "RelayHall" 37 "RelayHall" "exchanges" "Ljava/util/ArrayList;") ∈ lw_G := x_gw (inT_2 _ (List.mem_of_getElem? (i := 125) rfl)) rfl
theorem gw_606 : (Cond.fieldLink "RelayHall" 41 "RelayHall" "queues" "Ljava/util/ArrayList;") ∈ lw_G := x_gw (inT_2 _ (List.mem_of_getElem? (i := 126) rfl)) rfl
theorem gw_607 : (Cond.fieldLink "RelayHall" 44 "RelayHall" "bindings" "Ljava/util/ArrayList;") ∈ lw_G := x_gw (inT_2 _ (List.mem_of_getElem? (i := 127) rfl)) rfl
theorem gw_608 : (Cond.fieldLink "RelayHall" 47 "RelayHall" "consumers" "Ljava/util/ArrayList;") ∈ lw_G := x_gw (inT_2 _ (List.mem_of_getElem? (i := 128) rfl)) rfl
theorem gw_609 : (Cond.fieldLink "RelayHall" 50 "RelayHall" "dead" "Ljava/util/ArrayList;") ∈ lw_G := x_gw (inT_2 _ (List.mem_of_getElem? (i := 129) rfl)) rfl
theorem gw_610 : (Cond.fieldLink "RelayHall" 53 "RelayHall" "leaving" "Ljava/util/ArrayList;") ∈ lw_G := x_gw (inT_2 _ (List.mem_of_getElem? (i := 130) rfl)) rfl
theorem gw_611 : (Cond.fieldLink "RelayHall" 56 "RelayHall" "targets" "Ljava/util/ArrayList;") ∈ lw_G := x_gw (inT_2 _ (List.mem_of_getElem? (i := 131) rfl)) rfl
theorem gw_612 : (Cond.fieldLink "RelayHall" 62 "RelayHall" "log" "LRelayHall$Log;") ∈ lw_G := x_gw (inT_2 _ (List.mem_of_getElem? (i := 132) rfl)) rfl
theorem gw_613 : (Cond.fieldLink "RelayHall" 69 "RelayHall" "in" "LRelayHall$Reader;") ∈ lw_G := x_gw (inT_2 _ (List.mem_of_getElem? (i := 133) rfl)) rfl
theorem gw_614 : (Cond.fieldLink "RelayHall" 76 "RelayHall" "words" "Ljava/lang/StringBuilder;") ∈ lw_G := x_gw (inT_2 _ (List.mem_of_getElem? (i := 134) rfl)) rfl
theorem gw_615 : (Cond.fieldLink "RelayHall" 80 "RelayHall" "blame" "I") ∈ lw_G := x_gw (inT_2 _ (List.mem_of_getElem? (i := 135) rfl)) rfl
theorem gw_616 : (Cond.fieldLink "RelayHall" 83 "RelayHall" "clock" "I") ∈ lw_G := x_gw (inT_2 _ (List.mem_of_getElem? (i := 136) rfl)) rfl
theorem gw_617 : (Cond.fieldLink "RelayHall" 86 "RelayHall" "held" "I") ∈ lw_G := x_gw (inT_2 _ (List.mem_of_getElem? (i := 137) rfl)) rfl
theorem gw_618 : (Cond.fieldLink "RelayHall" 89 "RelayHall" "lastNumber" "I") ∈ lw_G := x_gw (inT_2 _ (List.mem_of_getElem? (i := 138) rfl)) rfl
theorem gw_619 : (Cond.fieldLink "RelayHall" 92 "RelayHall" "lastGenerated" "I") ∈ lw_G := x_gw (inT_2 _ (List.mem_of_getElem? (i := 139) rfl)) rfl
theorem gw_620 : (Cond.fieldLink "RelayHall" 95 "RelayHall" "deaths" "I") ∈ lw_G := x_gw (inT_2 _ (List.mem_of_getElem? (i := 140) rfl)) rfl
theorem gw_621 : (Cond.fieldLink "RelayHall" 98 "RelayHall" "crashes" "I") ∈ lw_G := x_gw (inT_2 _ (List.mem_of_getElem? (i := 141) rfl)) rfl
theorem gw_665 : (Cond.methodLink "RelayHallLaw" 32 ⟨"RelayHall", "type", "(JI)Z"⟩) ∈ lw_G := x_gw (inT_2 _ (List.mem_of_getElem? (i := 185) rfl)) rfl
theorem gw_666 : (Cond.instanceMethod ⟨"RelayHall", "type", "(JI)Z"⟩) ∈ lw_G := x_gw (inT_2 _ (List.mem_of_getElem? (i := 186) rfl)) rfl
theorem gw_667 : (Cond.selects "RelayHall" ⟨"RelayHall", "type", "(JI)Z"⟩ ⟨"RelayHall", "type", "(JI)Z"⟩) ∈ lw_G := x_gw (inT_2 _ (List.mem_of_getElem? (i := 187) rfl)) rfl
theorem gw_668 : (Cond.code ⟨"RelayHall", "type", "(JI)Z"⟩ prog_1_method_2_code 5 (some .boolean)) ∈ lw_G := x_gw (inT_2 _ (List.mem_of_getElem? (i := 188) rfl)) rfl
theorem gw_669 : (Cond.methodLink "RelayHallLaw" 37 ⟨"RelayHall", "connect", "(I)Z"⟩) ∈ lw_G := x_gw (inT_2 _ (List.mem_of_getElem? (i := 189) rfl)) rfl
theorem gw_670 : (Cond.instanceMethod ⟨"RelayHall", "connect", "(I)Z"⟩) ∈ lw_G := x_gw (inT_2 _ (List.mem_of_getElem? (i := 190) rfl)) rfl
theorem gw_671 : (Cond.selects "RelayHall" ⟨"RelayHall", "connect", "(I)Z"⟩ ⟨"RelayHall", "connect", "(I)Z"⟩) ∈ lw_G := x_gw (inT_2 _ (List.mem_of_getElem? (i := 191) rfl)) rfl
theorem gw_672 : (Cond.code ⟨"RelayHall", "connect", "(I)Z"⟩ prog_1_method_3_code 2 (some .boolean)) ∈ lw_G := x_gw (inT_2 _ (List.mem_of_getElem? (i := 192) rfl)) rfl
theorem gw_673 : (Cond.methodLink "RelayHall" 111 ⟨"RelayHall", "isConnection", "(I)Z"⟩) ∈ lw_G := x_gw (inT_2 _ (List.mem_of_getElem? (i := 193) rfl)) rfl
theorem gw_674 : (Cond.static ⟨"RelayHall", "isConnection", "(I)Z"⟩) ∈ lw_G := x_gw (inT_2 _ (List.mem_of_getElem? (i := 194) rfl)) rfl
theorem gw_675 : (Cond.code ⟨"RelayHall", "isConnection", "(I)Z"⟩ prog_1_method_15_code 1 (some .boolean)) ∈ lw_G := x_gw (inT_2 _ (List.mem_of_getElem? (i := 195) rfl)) rfl
theorem gw_676 : (Cond.methodLink "RelayHall" 118 ⟨"RelayHall$Connection", "restart", "(I)V"⟩) ∈ lw_G := x_gw (inT_2 _ (List.mem_of_getElem? (i := 196) rfl)) rfl
theorem gw_677 : (Cond.instanceMethod ⟨"RelayHall$Connection", "restart", "(I)V"⟩) ∈ lw_G := x_gw (inT_2 _ (List.mem_of_getElem? (i := 197) rfl)) rfl
theorem gw_678 : (Cond.selects "RelayHall$Connection" ⟨"RelayHall$Connection", "restart", "(I)V"⟩ ⟨"RelayHall$Connection", "restart", "(I)V"⟩) ∈ lw_G := x_gw (inT_2 _ (List.mem_of_getElem? (i := 198) rfl)) rfl
theorem gw_679 : (Cond.code ⟨"RelayHall$Connection", "restart", "(I)V"⟩ prog_4_method_2_code 2 none) ∈ lw_G := x_gw (inT_2 _ (List.mem_of_getElem? (i := 199) rfl)) rfl
theorem gw_680 : (Cond.methodLink "RelayHallLaw" 42 ⟨"RelayHall", "send", "(I)I"⟩) ∈ lw_G := x_gw (inT_2 _ (List.mem_of_getElem? (i := 200) rfl)) rfl
theorem gw_681 : (Cond.instanceMethod ⟨"RelayHall", "send", "(I)I"⟩) ∈ lw_G := x_gw (inT_2 _ (List.mem_of_getElem? (i := 201) rfl)) rfl
theorem gw_682 : (Cond.selects "RelayHall" ⟨"RelayHall", "send", "(I)I"⟩ ⟨"RelayHall", "send", "(I)I"⟩) ∈ lw_G := x_gw (inT_2 _ (List.mem_of_getElem? (i := 202) rfl)) rfl
theorem gw_683 : (Cond.code ⟨"RelayHall", "send", "(I)I"⟩ prog_1_method_4_code 6 (some .int)) ∈ lw_G := x_gw (inT_2 _ (List.mem_of_getElem? (i := 203) rfl)) rfl
theorem gw_684 : (Cond.methodLink "RelayHall" 125 ⟨"RelayHall$Connection", "takes", "(B)Z"⟩) ∈ lw_G := x_gw (inT_2 _ (List.mem_of_getElem? (i := 204) rfl)) rfl
theorem gw_685 : (Cond.instanceMethod ⟨"RelayHall$Connection", "takes", "(B)Z"⟩) ∈ lw_G := x_gw (inT_2 _ (List.mem_of_getElem? (i := 205) rfl)) rfl
theorem gw_686 : (Cond.selects "RelayHall$Connection" ⟨"RelayHall$Connection", "takes", "(B)Z"⟩ ⟨"RelayHall$Connection", "takes", "(B)Z"⟩) ∈ lw_G := x_gw (inT_2 _ (List.mem_of_getElem? (i := 206) rfl)) rfl
theorem gw_687 : (Cond.code ⟨"RelayHall$Connection", "takes", "(B)Z"⟩ prog_4_method_5_code 2 (some .boolean)) ∈ lw_G := x_gw (inT_2 _ (List.mem_of_getElem? (i := 207) rfl)) rfl
theorem gw_690 : (Cond.methodLink "RelayHall$Connection" 67 ⟨"RelayHall$Connection", "hasFineHead", "()Z"⟩) ∈ lw_G := x_gw (inT_2 _ (List.mem_of_getElem? (i := 210) rfl)) rfl
theorem gw_692 : (Cond.instanceMethod ⟨"RelayHall$Connection", "hasFineHead", "()Z"⟩) ∈ lw_G := x_gw (inT_2 _ (List.mem_of_getElem? (i := 212) rfl)) rfl
theorem gw_693 : (Cond.code ⟨"RelayHall$Connection", "hasFineHead", "()Z"⟩ prog_4_method_6_code 3 (some .boolean)) ∈ lw_G := x_gw (inT_2 _ (List.mem_of_getElem? (i := 213) rfl)) rfl
theorem gw_694 : (Cond.methodLink "RelayHall$Connection" 73 ⟨"RelayHall$Connection", "frameSize", "()J"⟩) ∈ lw_G := x_gw (inT_2 _ (List.mem_of_getElem? (i := 214) rfl)) rfl
theorem gw_695 : (Cond.instanceMethod ⟨"RelayHall$Connection", "frameSize", "()J"⟩) ∈ lw_G := x_gw (inT_2 _ (List.mem_of_getElem? (i := 215) rfl)) rfl
theorem gw_696 : (Cond.selects "RelayHall$Connection" ⟨"RelayHall$Connection", "frameSize", "()J"⟩ ⟨"RelayHall$Connection", "frameSize", "()J"⟩) ∈ lw_G := x_gw (inT_2 _ (List.mem_of_getElem? (i := 216) rfl)) rfl
theorem gw_697 : (Cond.code ⟨"RelayHall$Connection", "frameSize", "()J"⟩ prog_4_method_10_code 1 (some .long)) ∈ lw_G := x_gw (inT_2 _ (List.mem_of_getElem? (i := 217) rfl)) rfl
theorem gw_698 : (Cond.constantLong "RelayHall$Connection" 83 (255)) ∈ lw_G := x_gw (inT_2 _ (List.mem_of_getElem? (i := 218) rfl)) rfl
theorem gw_699 : (Cond.constantLong "RelayHall$Connection" 77 (400)) ∈ lw_G := x_gw (inT_2 _ (List.mem_of_getElem? (i := 219) rfl)) rfl
theorem gw_700 : (Cond.constantLong "RelayHall$Connection" 71 (7)) ∈ lw_G := x_gw (inT_2 _ (List.mem_of_getElem? (i := 220) rfl)) rfl
theorem gw_701 : (Cond.methodLink "RelayHall" 129 ⟨"RelayHall", "sift", "(LRelayHall$Connection;)LRelayHall$Channel;"⟩) ∈ lw_G := x_gw (inT_2 _ (List.mem_of_getElem? (i := 221) rfl)) rfl
theorem gw_703 : (Cond.instanceMethod ⟨"RelayHall", "sift", "(LRelayHall$Connection;)LRelayHall$Channel;"⟩) ∈ lw_G := x_gw (inT_2 _ (List.mem_of_getElem? (i := 223) rfl)) rfl
theorem gw_704 : (Cond.code ⟨"RelayHall", "sift", "(LRelayHall$Connection;)LRelayHall$Channel;"⟩ prog_1_method_49_code 4 (some (.object "RelayHall$Channel"))) ∈ lw_G := x_gw (inT_2 _ (List.mem_of_getElem? (i := 224) rfl)) rfl
theorem gw_705 : (Cond.methodLink "RelayHall" 398 ⟨"RelayHall$Connection", "isFrame", "()Z"⟩) ∈ lw_G := x_gw (inT_2 _ (List.mem_of_getElem? (i := 225) rfl)) rfl
theorem gw_706 : (Cond.instanceMethod ⟨"RelayHall$Connection", "isFrame", "()Z"⟩) ∈ lw_G := x_gw (inT_2 _ (List.mem_of_getElem? (i := 226) rfl)) rfl
theorem gw_707 : (Cond.selects "RelayHall$Connection" ⟨"RelayHall$Connection", "isFrame", "()Z"⟩ ⟨"RelayHall$Connection", "isFrame", "()Z"⟩) ∈ lw_G := x_gw (inT_2 _ (List.mem_of_getElem? (i := 227) rfl)) rfl
theorem gw_708 : (Cond.code ⟨"RelayHall$Connection", "isFrame", "()Z"⟩ prog_4_method_7_code 1 (some .boolean)) ∈ lw_G := x_gw (inT_2 _ (List.mem_of_getElem? (i := 228) rfl)) rfl
theorem gw_709 : (Cond.methodLink "RelayHall" 473 ⟨"RelayHall", "takeOutsideOpen", "(LRelayHall$Connection;)V"⟩) ∈ lw_G := x_gw (inT_2 _ (List.mem_of_getElem? (i := 229) rfl)) rfl
theorem gw_711 : (Cond.instanceMethod ⟨"RelayHall", "takeOutsideOpen", "(LRelayHall$Connection;)V"⟩) ∈ lw_G := x_gw (inT_2 _ (List.mem_of_getElem? (i := 231) rfl)) rfl
theorem gw_712 : (Cond.code ⟨"RelayHall", "takeOutsideOpen", "(LRelayHall$Connection;)V"⟩ prog_1_method_41_code 2 none) ∈ lw_G := x_gw (inT_2 _ (List.mem_of_getElem? (i := 232) rfl)) rfl
theorem gw_713 : (Cond.methodLink "RelayHall" 395 ⟨"RelayHall", "takeGreeting", "(LRelayHall$Connection;)V"⟩) ∈ lw_G := x_gw (inT_2 _ (List.mem_of_getElem? (i := 233) rfl)) rfl
theorem gw_715 : (Cond.instanceMethod ⟨"RelayHall", "takeGreeting", "(LRelayHall$Connection;)V"⟩) ∈ lw_G := x_gw (inT_2 _ (List.mem_of_getElem? (i := 235) rfl)) rfl
theorem gw_716 : (Cond.code ⟨"RelayHall", "takeGreeting", "(LRelayHall$Connection;)V"⟩ prog_1_method_42_code 4 none) ∈ lw_G := x_gw (inT_2 _ (List.mem_of_getElem? (i := 236) rfl)) rfl
theorem gw_717 : (Cond.fieldLink "RelayHall" 413 "RelayHall" "GREETING_BYTES" "[I") ∈ lw_G := x_gw (inT_2 _ (List.mem_of_getElem? (i := 237) rfl)) rfl
theorem gw_718 : (Cond.constant "RelayHall" 417 (655370)) ∈ lw_G := x_gw (inT_2 _ (List.mem_of_getElem? (i := 238) rfl)) rfl
theorem gw_719 : (Cond.constantLong "RelayHall" 418 (9)) ∈ lw_G := x_gw (inT_2 _ (List.mem_of_getElem? (i := 239) rfl)) rfl
theorem gw_720 : (Cond.methodLink "RelayHall" 420 ⟨"RelayHall", "answerNumber", "(LRelayHall$Channel;IJI)V"⟩) ∈ lw_G := x_gw (inT_3 _ (List.mem_of_getElem? (i := 0) rfl)) rfl
theorem gw_722 : (Cond.instanceMethod ⟨"RelayHall", "answerNumber", "(LRelayHall$Channel;IJI)V"⟩) ∈ lw_G := x_gw (inT_3 _ (List.mem_of_getElem? (i := 2) rfl)) rfl
theorem gw_723 : (Cond.code ⟨"RelayHall", "answerNumber", "(LRelayHall$Channel;IJI)V"⟩ prog_1_method_33_code 6 none) ∈ lw_G := x_gw (inT_3 _ (List.mem_of_getElem? (i := 3) rfl)) rfl
theorem gw_724 : (Cond.methodLink "RelayHall" 336 ⟨"RelayHall$Connection", "method", "(II)V"⟩) ∈ lw_G := x_gw (inT_3 _ (List.mem_of_getElem? (i := 4) rfl)) rfl
theorem gw_725 : (Cond.instanceMethod ⟨"RelayHall$Connection", "method", "(II)V"⟩) ∈ lw_G := x_gw (inT_3 _ (List.mem_of_getElem? (i := 5) rfl)) rfl
theorem gw_726 : (Cond.selects "RelayHall$Connection" ⟨"RelayHall$Connection", "method", "(II)V"⟩ ⟨"RelayHall$Connection", "method", "(II)V"⟩) ∈ lw_G := x_gw (inT_3 _ (List.mem_of_getElem? (i := 6) rfl)) rfl
theorem gw_727 : (Cond.code ⟨"RelayHall$Connection", "method", "(II)V"⟩ prog_4_method_14_code 3 none) ∈ lw_G := x_gw (inT_3 _ (List.mem_of_getElem? (i := 7) rfl)) rfl
theorem gw_728 : (Cond.constantLong "RelayHall$Connection" 91 (281474976710656)) ∈ lw_G := x_gw (inT_3 _ (List.mem_of_getElem? (i := 8) rfl)) rfl
theorem gw_729 : (Cond.methodLink "RelayHall$Connection" 87 ⟨"RelayHall$Connection", "put", "(JI)V"⟩) ∈ lw_G := x_gw (inT_3 _ (List.mem_of_getElem? (i := 9) rfl)) rfl
theorem gw_730 : (Cond.instanceMethod ⟨"RelayHall$Connection", "put", "(JI)V"⟩) ∈ lw_G := x_gw (inT_3 _ (List.mem_of_getElem? (i := 10) rfl)) rfl
theorem gw_731 : (Cond.selects "RelayHall$Connection" ⟨"RelayHall$Connection", "put", "(JI)V"⟩ ⟨"RelayHall$Connection", "put", "(JI)V"⟩) ∈ lw_G := x_gw (inT_3 _ (List.mem_of_getElem? (i := 11) rfl)) rfl
theorem gw_732 : (Cond.code ⟨"RelayHall$Connection", "put", "(JI)V"⟩ prog_4_method_12_code 6 none) ∈ lw_G := x_gw (inT_3 _ (List.mem_of_getElem? (i := 12) rfl)) rfl
theorem gw_733 : (Cond.methodLink "RelayHall" 350 ⟨"RelayHall$Connection", "put", "(JI)V"⟩) ∈ lw_G := x_gw (inT_3 _ (List.mem_of_getElem? (i := 13) rfl)) rfl
theorem gw_734 : (Cond.methodLink "RelayHall" 340 ⟨"RelayHall$Connection", "end", "()V"⟩) ∈ lw_G := x_gw (inT_3 _ (List.mem_of_getElem? (i := 14) rfl)) rfl
theorem gw_735 : (Cond.instanceMethod ⟨"RelayHall$Connection", "end", "()V"⟩) ∈ lw_G := x_gw (inT_3 _ (List.mem_of_getElem? (i := 15) rfl)) rfl
theorem gw_736 : (Cond.selects "RelayHall$Connection" ⟨"RelayHall$Connection", "end", "()V"⟩ ⟨"RelayHall$Connection", "end", "()V"⟩) ∈ lw_G := x_gw (inT_3 _ (List.mem_of_getElem? (i := 16) rfl)) rfl
theorem gw_737 : (Cond.code ⟨"RelayHall$Connection", "end", "()V"⟩ prog_4_method_18_code 4 none) ∈ lw_G := x_gw (inT_3 _ (List.mem_of_getElem? (i := 17) rfl)) rfl
theorem gw_738 : (Cond.constantLong "RelayHall$Connection" 102 (206)) ∈ lw_G := x_gw (inT_3 _ (List.mem_of_getElem? (i := 18) rfl)) rfl
theorem gw_739 : (Cond.methodLink "RelayHall" 343 ⟨"RelayHall", "ship", "(LRelayHall$Connection;)V"⟩) ∈ lw_G := x_gw (inT_3 _ (List.mem_of_getElem? (i := 19) rfl)) rfl
theorem gw_741 : (Cond.instanceMethod ⟨"RelayHall", "ship", "(LRelayHall$Connection;)V"⟩) ∈ lw_G := x_gw (inT_3 _ (List.mem_of_getElem? (i := 21) rfl)) rfl
theorem gw_742 : (Cond.code ⟨"RelayHall", "ship", "(LRelayHall$Connection;)V"⟩ prog_1_method_29_code 2 none) ∈ lw_G := x_gw (inT_3 _ (List.mem_of_getElem? (i := 22) rfl)) rfl
theorem gw_743 : (Cond.methodLink "RelayHall" 320 ⟨"RelayHall$Connection", "fits", "()Z"⟩) ∈ lw_G := x_gw (inT_3 _ (List.mem_of_getElem? (i := 23) rfl)) rfl
theorem gw_744 : (Cond.instanceMethod ⟨"RelayHall$Connection", "fits", "()Z"⟩) ∈ lw_G := x_gw (inT_3 _ (List.mem_of_getElem? (i := 24) rfl)) rfl
theorem gw_745 : (Cond.selects "RelayHall$Connection" ⟨"RelayHall$Connection", "fits", "()Z"⟩ ⟨"RelayHall$Connection", "fits", "()Z"⟩) ∈ lw_G := x_gw (inT_3 _ (List.mem_of_getElem? (i := 25) rfl)) rfl
theorem gw_746 : (Cond.code ⟨"RelayHall$Connection", "fits", "()Z"⟩ prog_4_method_19_code 2 (some .boolean)) ∈ lw_G := x_gw (inT_3 _ (List.mem_of_getElem? (i := 26) rfl)) rfl
theorem gw_747 : (Cond.methodLink "RelayHall" 151 ⟨"RelayHall", "close", "(LRelayHall$Connection;)V"⟩) ∈ lw_G := x_gw (inT_3 _ (List.mem_of_getElem? (i := 27) rfl)) rfl
theorem gw_749 : (Cond.instanceMethod ⟨"RelayHall", "close", "(LRelayHall$Connection;)V"⟩) ∈ lw_G := x_gw (inT_3 _ (List.mem_of_getElem? (i := 29) rfl)) rfl
theorem gw_750 : (Cond.code ⟨"RelayHall", "close", "(LRelayHall$Connection;)V"⟩ prog_1_method_30_code 2 none) ∈ lw_G := x_gw (inT_3 _ (List.mem_of_getElem? (i := 30) rfl)) rfl
theorem gw_751 : (Cond.methodLink "RelayHall" 326 ⟨"java/util/ArrayList", "add", "(Ljava/lang/Object;)Z"⟩) ∈ lw_G := x_gw (inT_3 _ (List.mem_of_getElem? (i := 31) rfl)) rfl
theorem gw_752 : (Cond.instanceMethod ⟨"java/util/ArrayList", "add", "(Ljava/lang/Object;)Z"⟩) ∈ lw_G := x_gw (inT_3 _ (List.mem_of_getElem? (i := 32) rfl)) rfl
theorem gw_753 : (Cond.selects "java/util/ArrayList" ⟨"java/util/ArrayList", "add", "(Ljava/lang/Object;)Z"⟩ ⟨"java/util/ArrayList", "add", "(Ljava/lang/Object;)Z"⟩) ∈ lw_G := x_gw (inT_3 _ (List.mem_of_getElem? (i := 33) rfl)) rfl
theorem gw_754 : (Cond.code ⟨"java/util/ArrayList", "add", "(Ljava/lang/Object;)Z"⟩ prog_50_method_25_code 2 (some .boolean)) ∈ lw_G := x_gw (inT_3 _ (List.mem_of_getElem? (i := 34) rfl)) rfl
theorem gw_755 : (Cond.methodLink "java/util/ArrayList" 131 ⟨"java/util/ArrayList", "add", "(Ljava/lang/Object;[Ljava/lang/Object;I)V"⟩) ∈ lw_G := x_gw (inT_3 _ (List.mem_of_getElem? (i := 35) rfl)) rfl
theorem gw_757 : (Cond.instanceMethod ⟨"java/util/ArrayList", "add", "(Ljava/lang/Object;[Ljava/lang/Object;I)V"⟩) ∈ lw_G := x_gw (inT_3 _ (List.mem_of_getElem? (i := 37) rfl)) rfl
theorem gw_758 : (Cond.code ⟨"java/util/ArrayList", "add", "(Ljava/lang/Object;[Ljava/lang/Object;I)V"⟩ prog_50_method_24_code 4 none) ∈ lw_G := x_gw (inT_3 _ (List.mem_of_getElem? (i := 38) rfl)) rfl
theorem gw_759 : (Cond.methodLink "java/util/ArrayList" 129 ⟨"java/util/ArrayList", "grow", "()[Ljava/lang/Object;"⟩) ∈ lw_G := x_gw (inT_3 _ (List.mem_of_getElem? (i := 39) rfl)) rfl
theorem gw_761 : (Cond.instanceMethod ⟨"java/util/ArrayList", "grow", "()[Ljava/lang/Object;"⟩) ∈ lw_G := x_gw (inT_3 _ (List.mem_of_getElem? (i := 41) rfl)) rfl
theorem gw_762 : (Cond.code ⟨"java/util/ArrayList", "grow", "()[Ljava/lang/Object;"⟩ prog_50_method_7_code 1 (some (.array (.object "java/lang/Object")))) ∈ lw_G := x_gw (inT_3 _ (List.mem_of_getElem? (i := 42) rfl)) rfl
theorem gw_763 : (Cond.methodLink "java/util/ArrayList" 69 ⟨"java/util/ArrayList", "grow", "(I)[Ljava/lang/Object;"⟩) ∈ lw_G := x_gw (inT_3 _ (List.mem_of_getElem? (i := 43) rfl)) rfl
theorem gw_765 : (Cond.instanceMethod ⟨"java/util/ArrayList", "grow", "(I)[Ljava/lang/Object;"⟩) ∈ lw_G := x_gw (inT_3 _ (List.mem_of_getElem? (i := 45) rfl)) rfl
theorem gw_766 : (Cond.code ⟨"java/util/ArrayList", "grow", "(I)[Ljava/lang/Object;"⟩ prog_50_method_6_code 4 (some (.array (.object "java/lang/Object")))) ∈ lw_G := x_gw (inT_3 _ (List.mem_of_getElem? (i := 46) rfl)) rfl
theorem gw_767 : (Cond.methodLink "java/util/ArrayList" 73 ⟨"jdk/internal/util/ArraysSupport", "newLength", "(III)I"⟩) ∈ lw_G := x_gw (inT_3 _ (List.mem_of_getElem? (i := 47) rfl)) rfl
theorem gw_768 : (Cond.static ⟨"jdk/internal/util/ArraysSupport", "newLength", "(III)I"⟩) ∈ lw_G := x_gw (inT_3 _ (List.mem_of_getElem? (i := 48) rfl)) rfl
theorem gw_769 : (Cond.code ⟨"jdk/internal/util/ArraysSupport", "newLength", "(III)I"⟩ prog_58_method_27_code 4 (some .int)) ∈ lw_G := x_gw (inT_3 _ (List.mem_of_getElem? (i := 49) rfl)) rfl
theorem gw_771 : (Cond.static ⟨"java/lang/Math", "max", "(II)I"⟩) ∈ lw_G := x_gw (inT_3 _ (List.mem_of_getElem? (i := 51) rfl)) rfl
theorem gw_772 : (Cond.code ⟨"java/lang/Math", "max", "(II)I"⟩ prog_38_method_65_code 2 (some .int)) ∈ lw_G := x_gw (inT_3 _ (List.mem_of_getElem? (i := 52) rfl)) rfl
theorem gw_777 : (Cond.methodLink "java/util/ArrayList" 66 ⟨"java/util/Arrays", "copyOf", "([Ljava/lang/Object;I)[Ljava/lang/Object;"⟩) ∈ lw_G := x_gw (inT_3 _ (List.mem_of_getElem? (i := 57) rfl)) rfl
theorem gw_778 : (Cond.static ⟨"java/util/Arrays", "copyOf", "([Ljava/lang/Object;I)[Ljava/lang/Object;"⟩) ∈ lw_G := x_gw (inT_3 _ (List.mem_of_getElem? (i := 58) rfl)) rfl
theorem gw_779 : (Cond.code ⟨"java/util/Arrays", "copyOf", "([Ljava/lang/Object;I)[Ljava/lang/Object;"⟩ prog_51_method_119_code 2 (some (.array (.object "java/lang/Object")))) ∈ lw_G := x_gw (inT_3 _ (List.mem_of_getElem? (i := 59) rfl)) rfl
theorem gw_830 : (Cond.methodLink "java/util/ArrayList" 79 ⟨"java/lang/Math", "max", "(II)I"⟩) ∈ lw_G := x_gw (inT_3 _ (List.mem_of_getElem? (i := 110) rfl)) rfl
theorem gw_831 : (Cond.classLink "java/util/ArrayList" 7 "java/lang/Object") ∈ lw_G := x_gw (inT_3 _ (List.mem_of_getElem? (i := 111) rfl)) rfl
theorem gw_832 : (Cond.methodLink "RelayHall" 401 ⟨"RelayHall", "takeNoFrame", "(LRelayHall$Connection;)V"⟩) ∈ lw_G := x_gw (inT_3 _ (List.mem_of_getElem? (i := 112) rfl)) rfl
theorem gw_834 : (Cond.instanceMethod ⟨"RelayHall", "takeNoFrame", "(LRelayHall$Connection;)V"⟩) ∈ lw_G := x_gw (inT_3 _ (List.mem_of_getElem? (i := 114) rfl)) rfl
theorem gw_835 : (Cond.code ⟨"RelayHall", "takeNoFrame", "(LRelayHall$Connection;)V"⟩ prog_1_method_43_code 2 none) ∈ lw_G := x_gw (inT_3 _ (List.mem_of_getElem? (i := 115) rfl)) rfl
theorem gw_836 : (Cond.methodLink "RelayHall" 366 ⟨"RelayHall", "hard", "(LRelayHall$Connection;I)V"⟩) ∈ lw_G := x_gw (inT_3 _ (List.mem_of_getElem? (i := 116) rfl)) rfl
theorem gw_838 : (Cond.instanceMethod ⟨"RelayHall", "hard", "(LRelayHall$Connection;I)V"⟩) ∈ lw_G := x_gw (inT_3 _ (List.mem_of_getElem? (i := 118) rfl)) rfl
theorem gw_839 : (Cond.code ⟨"RelayHall", "hard", "(LRelayHall$Connection;I)V"⟩ prog_1_method_35_code 3 none) ∈ lw_G := x_gw (inT_3 _ (List.mem_of_getElem? (i := 119) rfl)) rfl
theorem gw_840 : (Cond.constant "RelayHall" 354 (655410)) ∈ lw_G := x_gw (inT_3 _ (List.mem_of_getElem? (i := 120) rfl)) rfl
theorem gw_841 : (Cond.methodLink "RelayHall" 355 ⟨"RelayHall", "draftError", "(LRelayHall$Connection;III)V"⟩) ∈ lw_G := x_gw (inT_3 _ (List.mem_of_getElem? (i := 121) rfl)) rfl
theorem gw_843 : (Cond.instanceMethod ⟨"RelayHall", "draftError", "(LRelayHall$Connection;III)V"⟩) ∈ lw_G := x_gw (inT_3 _ (List.mem_of_getElem? (i := 123) rfl)) rfl
theorem gw_844 : (Cond.code ⟨"RelayHall", "draftError", "(LRelayHall$Connection;III)V"⟩ prog_1_method_34_code 5 none) ∈ lw_G := x_gw (inT_3 _ (List.mem_of_getElem? (i := 124) rfl)) rfl
theorem gw_845 : (Cond.methodLink "RelayHall" 404 ⟨"RelayHall", "takeWhileClosing", "(LRelayHall$Connection;)V"⟩) ∈ lw_G := x_gw (inT_3 _ (List.mem_of_getElem? (i := 125) rfl)) rfl
theorem gw_847 : (Cond.instanceMethod ⟨"RelayHall", "takeWhileClosing", "(LRelayHall$Connection;)V"⟩) ∈ lw_G := x_gw (inT_3 _ (List.mem_of_getElem? (i := 127) rfl)) rfl
theorem gw_848 : (Cond.code ⟨"RelayHall", "takeWhileClosing", "(LRelayHall$Connection;)V"⟩ prog_1_method_44_code 2 none) ∈ lw_G := x_gw (inT_3 _ (List.mem_of_getElem? (i := 128) rfl)) rfl
theorem gw_849 : (Cond.methodLink "RelayHall" 427 ⟨"RelayHall$Connection", "frameChannel", "()I"⟩) ∈ lw_G := x_gw (inT_3 _ (List.mem_of_getElem? (i := 129) rfl)) rfl
theorem gw_850 : (Cond.instanceMethod ⟨"RelayHall$Connection", "frameChannel", "()I"⟩) ∈ lw_G := x_gw (inT_3 _ (List.mem_of_getElem? (i := 130) rfl)) rfl
theorem gw_851 : (Cond.selects "RelayHall$Connection" ⟨"RelayHall$Connection", "frameChannel", "()I"⟩ ⟨"RelayHall$Connection", "frameChannel", "()I"⟩) ∈ lw_G := x_gw (inT_3 _ (List.mem_of_getElem? (i := 131) rfl)) rfl
theorem gw_852 : (Cond.code ⟨"RelayHall$Connection", "frameChannel", "()I"⟩ prog_4_method_9_code 1 (some .int)) ∈ lw_G := x_gw (inT_3 _ (List.mem_of_getElem? (i := 132) rfl)) rfl
theorem gw_853 : (Cond.methodLink "RelayHall" 430 ⟨"RelayHall$Connection", "frameMethod", "()I"⟩) ∈ lw_G := x_gw (inT_3 _ (List.mem_of_getElem? (i := 133) rfl)) rfl
theorem gw_854 : (Cond.instanceMethod ⟨"RelayHall$Connection", "frameMethod", "()I"⟩) ∈ lw_G := x_gw (inT_3 _ (List.mem_of_getElem? (i := 134) rfl)) rfl
theorem gw_855 : (Cond.selects "RelayHall$Connection" ⟨"RelayHall$Connection", "frameMethod", "()I"⟩ ⟨"RelayHall$Connection", "frameMethod", "()I"⟩) ∈ lw_G := x_gw (inT_3 _ (List.mem_of_getElem? (i := 135) rfl)) rfl
theorem gw_856 : (Cond.code ⟨"RelayHall$Connection", "frameMethod", "()I"⟩ prog_4_method_11_code 1 (some .int)) ∈ lw_G := x_gw (inT_3 _ (List.mem_of_getElem? (i := 136) rfl)) rfl
theorem gw_857 : (Cond.constantLong "RelayHall$Connection" 85 (4)) ∈ lw_G := x_gw (inT_3 _ (List.mem_of_getElem? (i := 137) rfl)) rfl
theorem gw_859 : (Cond.methodLink "RelayHall" 434 ⟨"RelayHall", "answer", "(LRelayHall$Channel;I)V"⟩) ∈ lw_G := x_gw (inT_3 _ (List.mem_of_getElem? (i := 139) rfl)) rfl
theorem gw_861 : (Cond.instanceMethod ⟨"RelayHall", "answer", "(LRelayHall$Channel;I)V"⟩) ∈ lw_G := x_gw (inT_3 _ (List.mem_of_getElem? (i := 141) rfl)) rfl
theorem gw_862 : (Cond.code ⟨"RelayHall", "answer", "(LRelayHall$Channel;I)V"⟩ prog_1_method_31_code 3 none) ∈ lw_G := x_gw (inT_3 _ (List.mem_of_getElem? (i := 142) rfl)) rfl
theorem gw_863 : (Cond.methodLink "RelayHall" 407 ⟨"RelayHall$Connection", "isIdleBeat", "()Z"⟩) ∈ lw_G := x_gw (inT_3 _ (List.mem_of_getElem? (i := 143) rfl)) rfl
theorem gw_864 : (Cond.instanceMethod ⟨"RelayHall$Connection", "isIdleBeat", "()Z"⟩) ∈ lw_G := x_gw (inT_3 _ (List.mem_of_getElem? (i := 144) rfl)) rfl
theorem gw_865 : (Cond.selects "RelayHall$Connection" ⟨"RelayHall$Connection", "isIdleBeat", "()Z"⟩ ⟨"RelayHall$Connection", "isIdleBeat", "()Z"⟩) ∈ lw_G := x_gw (inT_3 _ (List.mem_of_getElem? (i := 145) rfl)) rfl
theorem gw_866 : (Cond.code ⟨"RelayHall$Connection", "isIdleBeat", "()Z"⟩ prog_4_method_8_code 1 (some .boolean)) ∈ lw_G := x_gw (inT_3 _ (List.mem_of_getElem? (i := 146) rfl)) rfl
theorem gw_867 : (Cond.methodLink "RelayHall$Connection" 79 ⟨"RelayHall$Connection", "frameChannel", "()I"⟩) ∈ lw_G := x_gw (inT_3 _ (List.mem_of_getElem? (i := 147) rfl)) rfl
theorem gw_868 : (Cond.methodLink "RelayHall" 410 ⟨"RelayHall", "shakeHands", "(LRelayHall$Connection;)V"⟩) ∈ lw_G := x_gw (inT_3 _ (List.mem_of_getElem? (i := 148) rfl)) rfl
theorem gw_870 : (Cond.instanceMethod ⟨"RelayHall", "shakeHands", "(LRelayHall$Connection;)V"⟩) ∈ lw_G := x_gw (inT_3 _ (List.mem_of_getElem? (i := 150) rfl)) rfl
theorem gw_871 : (Cond.code ⟨"RelayHall", "shakeHands", "(LRelayHall$Connection;)V"⟩ prog_1_method_45_code 3 none) ∈ lw_G := x_gw (inT_3 _ (List.mem_of_getElem? (i := 151) rfl)) rfl
theorem gw_872 : (Cond.methodLink "RelayHall" 438 ⟨"RelayHall$Reader", "over", "([BII)V"⟩) ∈ lw_G := x_gw (inT_3 _ (List.mem_of_getElem? (i := 152) rfl)) rfl
theorem gw_873 : (Cond.instanceMethod ⟨"RelayHall$Reader", "over", "([BII)V"⟩) ∈ lw_G := x_gw (inT_3 _ (List.mem_of_getElem? (i := 153) rfl)) rfl
theorem gw_874 : (Cond.selects "RelayHall$Reader" ⟨"RelayHall$Reader", "over", "([BII)V"⟩ ⟨"RelayHall$Reader", "over", "([BII)V"⟩) ∈ lw_G := x_gw (inT_3 _ (List.mem_of_getElem? (i := 154) rfl)) rfl
theorem gw_875 : (Cond.code ⟨"RelayHall$Reader", "over", "([BII)V"⟩ prog_11_method_2_code 4 none) ∈ lw_G := x_gw (inT_3 _ (List.mem_of_getElem? (i := 155) rfl)) rfl
theorem gw_876 : (Cond.constant "RelayHall" 442 (655371)) ∈ lw_G := x_gw (inT_3 _ (List.mem_of_getElem? (i := 156) rfl)) rfl
theorem gw_877 : (Cond.methodLink "RelayHall" 443 ⟨"RelayHall", "takeStart", "(LRelayHall$Connection;)V"⟩) ∈ lw_G := x_gw (inT_3 _ (List.mem_of_getElem? (i := 157) rfl)) rfl
theorem gw_879 : (Cond.instanceMethod ⟨"RelayHall", "takeStart", "(LRelayHall$Connection;)V"⟩) ∈ lw_G := x_gw (inT_3 _ (List.mem_of_getElem? (i := 159) rfl)) rfl
theorem gw_880 : (Cond.code ⟨"RelayHall", "takeStart", "(LRelayHall$Connection;)V"⟩ prog_1_method_46_code 2 none) ∈ lw_G := x_gw (inT_3 _ (List.mem_of_getElem? (i := 160) rfl)) rfl
theorem gw_881 : (Cond.methodLink "RelayHall" 454 ⟨"RelayHall$Reader", "shortText", "()Ljava/lang/String;"⟩) ∈ lw_G := x_gw (inT_3 _ (List.mem_of_getElem? (i := 161) rfl)) rfl
theorem gw_882 : (Cond.instanceMethod ⟨"RelayHall$Reader", "shortText", "()Ljava/lang/String;"⟩) ∈ lw_G := x_gw (inT_3 _ (List.mem_of_getElem? (i := 162) rfl)) rfl
theorem gw_883 : (Cond.selects "RelayHall$Reader" ⟨"RelayHall$Reader", "shortText", "()Ljava/lang/String;"⟩ ⟨"RelayHall$Reader", "shortText", "()Ljava/lang/String;"⟩) ∈ lw_G := x_gw (inT_3 _ (List.mem_of_getElem? (i := 163) rfl)) rfl
theorem gw_884 : (Cond.code ⟨"RelayHall$Reader", "shortText", "()Ljava/lang/String;"⟩ prog_11_method_8_code 1 (some (.object "java/lang/String"))) ∈ lw_G := x_gw (inT_3 _ (List.mem_of_getElem? (i := 164) rfl)) rfl
theorem gw_885 : (Cond.methodLink "RelayHall$Reader" 37 ⟨"RelayHall$Reader", "u8", "()I"⟩) ∈ lw_G := x_gw (inT_3 _ (List.mem_of_getElem? (i := 165) rfl)) rfl
theorem gw_886 : (Cond.instanceMethod ⟨"RelayHall$Reader", "u8", "()I"⟩) ∈ lw_G := x_gw (inT_3 _ (List.mem_of_getElem? (i := 166) rfl)) rfl
theorem gw_887 : (Cond.selects "RelayHall$Reader" ⟨"RelayHall$Reader", "u8", "()I"⟩ ⟨"RelayHall$Reader", "u8", "()I"⟩) ∈ lw_G := x_gw (inT_3 _ (List.mem_of_getElem? (i := 167) rfl)) rfl
theorem gw_888 : (Cond.code ⟨"RelayHall$Reader", "u8", "()I"⟩ prog_11_method_4_code 1 (some .int)) ∈ lw_G := x_gw (inT_3 _ (List.mem_of_getElem? (i := 168) rfl)) rfl
theorem gw_889 : (Cond.methodLink "RelayHall$Reader" 26 ⟨"RelayHall$Reader", "number", "(I)J"⟩) ∈ lw_G := x_gw (inT_3 _ (List.mem_of_getElem? (i := 169) rfl)) rfl
theorem gw_890 : (Cond.instanceMethod ⟨"RelayHall$Reader", "number", "(I)J"⟩) ∈ lw_G := x_gw (inT_3 _ (List.mem_of_getElem? (i := 170) rfl)) rfl
theorem gw_891 : (Cond.selects "RelayHall$Reader" ⟨"RelayHall$Reader", "number", "(I)J"⟩ ⟨"RelayHall$Reader", "number", "(I)J"⟩) ∈ lw_G := x_gw (inT_3 _ (List.mem_of_getElem? (i := 171) rfl)) rfl
theorem gw_892 : (Cond.code ⟨"RelayHall$Reader", "number", "(I)J"⟩ prog_11_method_3_code 5 (some .long)) ∈ lw_G := x_gw (inT_3 _ (List.mem_of_getElem? (i := 172) rfl)) rfl
theorem gw_893 : (Cond.methodLink "RelayHall$Reader" 41 ⟨"RelayHall$Reader", "text", "(JI)Ljava/lang/String;"⟩) ∈ lw_G := x_gw (inT_3 _ (List.mem_of_getElem? (i := 173) rfl)) rfl
theorem gw_894 : (Cond.instanceMethod ⟨"RelayHall$Reader", "text", "(JI)Ljava/lang/String;"⟩) ∈ lw_G := x_gw (inT_3 _ (List.mem_of_getElem? (i := 174) rfl)) rfl
theorem gw_895 : (Cond.selects "RelayHall$Reader" ⟨"RelayHall$Reader", "text", "(JI)Ljava/lang/String;"⟩ ⟨"RelayHall$Reader", "text", "(JI)Ljava/lang/String;"⟩) ∈ lw_G := x_gw (inT_3 _ (List.mem_of_getElem? (i := 175) rfl)) rfl
theorem gw_896 : (Cond.code ⟨"RelayHall$Reader", "text", "(JI)Ljava/lang/String;"⟩ prog_11_method_7_code 6 (some (.object "java/lang/String"))) ∈ lw_G := x_gw (inT_3 _ (List.mem_of_getElem? (i := 176) rfl)) rfl
theorem gw_898 : (Cond.classLink "RelayHall$Reader" 32 "java/lang/String") ∈ lw_G := x_gw (inT_3 _ (List.mem_of_getElem? (i := 178) rfl)) rfl
theorem gw_899 : (Cond.instantiable "java/lang/String" 4) ∈ lw_G := x_gw (inT_3 _ (List.mem_of_getElem? (i := 179) rfl)) rfl
theorem gw_900 : (Cond.methodLink "RelayHall$Reader" 34 ⟨"java/lang/String", "<init>", "([C)V"⟩) ∈ lw_G := x_gw (inT_3 _ (List.mem_of_getElem? (i := 180) rfl)) rfl
theorem gw_901 : (Cond.instanceMethod ⟨"java/lang/String", "<init>", "([C)V"⟩) ∈ lw_G := x_gw (inT_3 _ (List.mem_of_getElem? (i := 181) rfl)) rfl
theorem gw_902 : (Cond.code ⟨"java/lang/String", "<init>", "([C)V"⟩ prog_41_method_3_code 2 none) ∈ lw_G := x_gw (inT_3 _ (List.mem_of_getElem? (i := 182) rfl)) rfl
theorem gw_903 : (Cond.methodLink "java/lang/String" 27 ⟨"java/lang/String", "<init>", "([CIILjava/lang/Void;)V"⟩) ∈ lw_G := x_gw (inT_3 _ (List.mem_of_getElem? (i := 183) rfl)) rfl
theorem gw_904 : (Cond.instanceMethod ⟨"java/lang/String", "<init>", "([CIILjava/lang/Void;)V"⟩) ∈ lw_G := x_gw (inT_3 _ (List.mem_of_getElem? (i := 184) rfl)) rfl
theorem gw_905 : (Cond.code ⟨"java/lang/String", "<init>", "([CIILjava/lang/Void;)V"⟩ prog_41_method_149_code 6 none) ∈ lw_G := x_gw (inT_3 _ (List.mem_of_getElem? (i := 185) rfl)) rfl
theorem gw_906 : (Cond.methodLink "java/lang/String" 1 ⟨"java/lang/Object", "<init>", "()V"⟩) ∈ lw_G := x_gw (inT_3 _ (List.mem_of_getElem? (i := 186) rfl)) rfl
theorem gw_908 : (Cond.fieldLink "java/lang/String" 38 "java/lang/String" "COMPACT_STRINGS" "Z") ∈ lw_G := x_gw (inT_3 _ (List.mem_of_getElem? (i := 188) rfl)) rfl
theorem gw_909 : (Cond.methodLink "java/lang/String" 177 ⟨"java/lang/StringUTF16", "compress", "([CII)[B"⟩) ∈ lw_G := x_gw (inT_3 _ (List.mem_of_getElem? (i := 189) rfl)) rfl
theorem gw_910 : (Cond.static ⟨"java/lang/StringUTF16", "compress", "([CII)[B"⟩) ∈ lw_G := x_gw (inT_3 _ (List.mem_of_getElem? (i := 190) rfl)) rfl
theorem gw_911 : (Cond.code ⟨"java/lang/StringUTF16", "compress", "([CII)[B"⟩ prog_45_method_16_code 6 (some (.array .byte))) ∈ lw_G := x_gw (inT_3 _ (List.mem_of_getElem? (i := 191) rfl)) rfl
theorem gw_912 : (Cond.methodLink "java/lang/StringUTF16" 115 ⟨"java/lang/StringUTF16", "compress", "([CI[BII)I"⟩) ∈ lw_G := x_gw (inT_3 _ (List.mem_of_getElem? (i := 192) rfl)) rfl
theorem gw_913 : (Cond.static ⟨"java/lang/StringUTF16", "compress", "([CI[BII)I"⟩) ∈ lw_G := x_gw (inT_3 _ (List.mem_of_getElem? (i := 193) rfl)) rfl
theorem gw_914 : (Cond.code ⟨"java/lang/StringUTF16", "compress", "([CI[BII)I"⟩ prog_45_method_21_code 7 (some .int)) ∈ lw_G := x_gw (inT_3 _ (List.mem_of_getElem? (i := 194) rfl)) rfl
theorem gw_915 : (Cond.methodLink "java/lang/StringUTF16" 119 ⟨"java/lang/StringUTF16", "toBytes", "([CII)[B"⟩) ∈ lw_G := x_gw (inT_3 _ (List.mem_of_getElem? (i := 195) rfl)) rfl
theorem gw_916 : (Cond.static ⟨"java/lang/StringUTF16", "toBytes", "([CII)[B"⟩) ∈ lw_G := x_gw (inT_3 _ (List.mem_of_getElem? (i := 196) rfl)) rfl
theorem gw_917 : (Cond.code ⟨"java/lang/StringUTF16", "toBytes", "([CII)[B"⟩ prog_45_method_14_code 5 (some (.array .byte))) ∈ lw_G := x_gw (inT_3 _ (List.mem_of_getElem? (i := 197) rfl)) rfl
theorem gw_931 : (Cond.methodLink "java/lang/StringUTF16" 71 ⟨"java/lang/StringUTF16", "getChar", "([BI)C"⟩) ∈ lw_G := x_gw (inT_3 _ (List.mem_of_getElem? (i := 211) rfl)) rfl
theorem gw_932 : (Cond.static ⟨"java/lang/StringUTF16", "getChar", "([BI)C"⟩) ∈ lw_G := x_gw (inT_3 _ (List.mem_of_getElem? (i := 212) rfl)) rfl
theorem gw_933 : (Cond.code ⟨"java/lang/StringUTF16", "getChar", "([BI)C"⟩ prog_45_method_5_code 2 (some .char)) ∈ lw_G := x_gw (inT_3 _ (List.mem_of_getElem? (i := 213) rfl)) rfl
theorem gw_934 : (Cond.methodLink "java/lang/StringUTF16" 123 ⟨"java/lang/StringUTF16", "compress", "([BI[BII)I"⟩) ∈ lw_G := x_gw (inT_3 _ (List.mem_of_getElem? (i := 214) rfl)) rfl
theorem gw_935 : (Cond.static ⟨"java/lang/StringUTF16", "compress", "([BI[BII)I"⟩) ∈ lw_G := x_gw (inT_3 _ (List.mem_of_getElem? (i := 215) rfl)) rfl
theorem gw_936 : (Cond.code ⟨"java/lang/StringUTF16", "compress", "([BI[BII)I"⟩ prog_45_method_22_code 7 (some .int)) ∈ lw_G := x_gw (inT_3 _ (List.mem_of_getElem? (i := 216) rfl)) rfl
theorem gw_943 : (Cond.fieldLink "java/lang/String" 1053 "jdk/internal/util/Preconditions" "SIOOBE_FORMATTER" "Ljava/util/function/BiFunction;") ∈ lw_G := x_gw (inT_3 _ (List.mem_of_getElem? (i := 223) rfl)) rfl
theorem gw_948 : (Cond.methodLink "java/lang/String" 47 ⟨"java/lang/StringUTF16", "coderFromArrayLen", "([BI)B"⟩) ∈ lw_G := x_gw (inT_3 _ (List.mem_of_getElem? (i := 228) rfl)) rfl
theorem gw_949 : (Cond.static ⟨"java/lang/StringUTF16", "coderFromArrayLen", "([BI)B"⟩) ∈ lw_G := x_gw (inT_3 _ (List.mem_of_getElem? (i := 229) rfl)) rfl
theorem gw_950 : (Cond.code ⟨"java/lang/StringUTF16", "coderFromArrayLen", "([BI)B"⟩ prog_45_method_15_code 2 (some .byte)) ∈ lw_G := x_gw (inT_3 _ (List.mem_of_getElem? (i := 230) rfl)) rfl
theorem gw_951 : (Cond.methodLink "java/lang/String" 180 ⟨"java/lang/StringUTF16", "toBytes", "([CII)[B"⟩) ∈ lw_G := x_gw (inT_3 _ (List.mem_of_getElem? (i := 231) rfl)) rfl
theorem gw_952 : (Cond.fieldLink "java/lang/String" 9 "java/lang/String" "value" "[B") ∈ lw_G := x_gw (inT_3 _ (List.mem_of_getElem? (i := 232) rfl)) rfl
theorem gw_953 : (Cond.fieldLink "java/lang/String" 15 "java/lang/String" "coder" "B") ∈ lw_G := x_gw (inT_3 _ (List.mem_of_getElem? (i := 233) rfl)) rfl
theorem gw_963 : (Cond.arrayClass .char) ∈ lw_G := x_gw (inT_4 _ (List.mem_of_getElem? (i := 3) rfl)) rfl
theorem gw_964 : (Cond.methodLink "RelayHall" 363 ⟨"RelayHall$Reader", "done", "()Z"⟩) ∈ lw_G := x_gw (inT_4 _ (List.mem_of_getElem? (i := 4) rfl)) rfl
theorem gw_965 : (Cond.instanceMethod ⟨"RelayHall$Reader", "done", "()Z"⟩) ∈ lw_G := x_gw (inT_4 _ (List.mem_of_getElem? (i := 5) rfl)) rfl
theorem gw_966 : (Cond.selects "RelayHall$Reader" ⟨"RelayHall$Reader", "done", "()Z"⟩ ⟨"RelayHall$Reader", "done", "()Z"⟩) ∈ lw_G := x_gw (inT_4 _ (List.mem_of_getElem? (i := 6) rfl)) rfl
theorem gw_967 : (Cond.code ⟨"RelayHall$Reader", "done", "()Z"⟩ prog_11_method_11_code 1 (some .boolean)) ∈ lw_G := x_gw (inT_4 _ (List.mem_of_getElem? (i := 7) rfl)) rfl
theorem gw_968 : (Cond.constant "RelayHall" 458 (655390)) ∈ lw_G := x_gw (inT_4 _ (List.mem_of_getElem? (i := 8) rfl)) rfl
theorem gw_969 : (Cond.constantLong "RelayHall" 459 (3)) ∈ lw_G := x_gw (inT_4 _ (List.mem_of_getElem? (i := 9) rfl)) rfl
theorem gw_970 : (Cond.constantLong "RelayHall" 461 (400)) ∈ lw_G := x_gw (inT_4 _ (List.mem_of_getElem? (i := 10) rfl)) rfl
theorem gw_971 : (Cond.constantLong "RelayHall" 463 (30)) ∈ lw_G := x_gw (inT_4 _ (List.mem_of_getElem? (i := 11) rfl)) rfl
theorem gw_972 : (Cond.constant "RelayHall" 446 (655391)) ∈ lw_G := x_gw (inT_4 _ (List.mem_of_getElem? (i := 12) rfl)) rfl
theorem gw_973 : (Cond.methodLink "RelayHall" 447 ⟨"RelayHall", "takeTuning", "(LRelayHall$Connection;)V"⟩) ∈ lw_G := x_gw (inT_4 _ (List.mem_of_getElem? (i := 13) rfl)) rfl
theorem gw_975 : (Cond.instanceMethod ⟨"RelayHall", "takeTuning", "(LRelayHall$Connection;)V"⟩) ∈ lw_G := x_gw (inT_4 _ (List.mem_of_getElem? (i := 15) rfl)) rfl
theorem gw_976 : (Cond.code ⟨"RelayHall", "takeTuning", "(LRelayHall$Connection;)V"⟩ prog_1_method_47_code 6 none) ∈ lw_G := x_gw (inT_4 _ (List.mem_of_getElem? (i := 16) rfl)) rfl
theorem gw_977 : (Cond.methodLink "RelayHall" 465 ⟨"RelayHall$Reader", "u16", "()I"⟩) ∈ lw_G := x_gw (inT_4 _ (List.mem_of_getElem? (i := 17) rfl)) rfl
theorem gw_978 : (Cond.instanceMethod ⟨"RelayHall$Reader", "u16", "()I"⟩) ∈ lw_G := x_gw (inT_4 _ (List.mem_of_getElem? (i := 18) rfl)) rfl
theorem gw_979 : (Cond.selects "RelayHall$Reader" ⟨"RelayHall$Reader", "u16", "()I"⟩ ⟨"RelayHall$Reader", "u16", "()I"⟩) ∈ lw_G := x_gw (inT_4 _ (List.mem_of_getElem? (i := 19) rfl)) rfl
theorem gw_980 : (Cond.code ⟨"RelayHall$Reader", "u16", "()I"⟩ prog_11_method_5_code 1 (some .int)) ∈ lw_G := x_gw (inT_4 _ (List.mem_of_getElem? (i := 20) rfl)) rfl
theorem gw_981 : (Cond.methodLink "RelayHall" 468 ⟨"RelayHall$Reader", "u32", "()J"⟩) ∈ lw_G := x_gw (inT_4 _ (List.mem_of_getElem? (i := 21) rfl)) rfl
theorem gw_982 : (Cond.instanceMethod ⟨"RelayHall$Reader", "u32", "()J"⟩) ∈ lw_G := x_gw (inT_4 _ (List.mem_of_getElem? (i := 22) rfl)) rfl
theorem gw_983 : (Cond.selects "RelayHall$Reader" ⟨"RelayHall$Reader", "u32", "()J"⟩ ⟨"RelayHall$Reader", "u32", "()J"⟩) ∈ lw_G := x_gw (inT_4 _ (List.mem_of_getElem? (i := 23) rfl)) rfl
theorem gw_984 : (Cond.code ⟨"RelayHall$Reader", "u32", "()J"⟩ prog_11_method_6_code 1 (some .long)) ∈ lw_G := x_gw (inT_4 _ (List.mem_of_getElem? (i := 24) rfl)) rfl
theorem gw_985 : (Cond.constant "RelayHall" 450 (655400)) ∈ lw_G := x_gw (inT_4 _ (List.mem_of_getElem? (i := 25) rfl)) rfl
theorem gw_986 : (Cond.methodLink "RelayHall" 451 ⟨"RelayHall", "takeOpening", "(LRelayHall$Connection;)V"⟩) ∈ lw_G := x_gw (inT_4 _ (List.mem_of_getElem? (i := 26) rfl)) rfl
theorem gw_988 : (Cond.instanceMethod ⟨"RelayHall", "takeOpening", "(LRelayHall$Connection;)V"⟩) ∈ lw_G := x_gw (inT_4 _ (List.mem_of_getElem? (i := 28) rfl)) rfl
theorem gw_989 : (Cond.code ⟨"RelayHall", "takeOpening", "(LRelayHall$Connection;)V"⟩ prog_1_method_48_code 2 none) ∈ lw_G := x_gw (inT_4 _ (List.mem_of_getElem? (i := 29) rfl)) rfl
theorem gw_990 : (Cond.constant "RelayHall" 472 (655401)) ∈ lw_G := x_gw (inT_4 _ (List.mem_of_getElem? (i := 30) rfl)) rfl
theorem gw_991 : (Cond.methodLink "RelayHall" 476 ⟨"RelayHall", "takeWhileEnding", "(LRelayHall$Channel;)V"⟩) ∈ lw_G := x_gw (inT_4 _ (List.mem_of_getElem? (i := 31) rfl)) rfl
theorem gw_993 : (Cond.instanceMethod ⟨"RelayHall", "takeWhileEnding", "(LRelayHall$Channel;)V"⟩) ∈ lw_G := x_gw (inT_4 _ (List.mem_of_getElem? (i := 33) rfl)) rfl
theorem gw_994 : (Cond.code ⟨"RelayHall", "takeWhileEnding", "(LRelayHall$Channel;)V"⟩ prog_1_method_50_code 2 none) ∈ lw_G := x_gw (inT_4 _ (List.mem_of_getElem? (i := 34) rfl)) rfl
theorem gw_997 : (Cond.methodLink "RelayHall" 479 ⟨"RelayHall", "faultOf", "(LRelayHall$Channel;)I"⟩) ∈ lw_G := x_gw (inT_4 _ (List.mem_of_getElem? (i := 37) rfl)) rfl
theorem gw_999 : (Cond.instanceMethod ⟨"RelayHall", "faultOf", "(LRelayHall$Channel;)I"⟩) ∈ lw_G := x_gw (inT_4 _ (List.mem_of_getElem? (i := 39) rfl)) rfl
theorem gw_1000 : (Cond.code ⟨"RelayHall", "faultOf", "(LRelayHall$Channel;)I"⟩ prog_1_method_51_code 3 (some .int)) ∈ lw_G := x_gw (inT_4 _ (List.mem_of_getElem? (i := 40) rfl)) rfl
theorem gw_1001 : (Cond.methodLink "RelayHall" 483 ⟨"RelayHall$Connection", "frameSize", "()J"⟩) ∈ lw_G := x_gw (inT_4 _ (List.mem_of_getElem? (i := 41) rfl)) rfl
theorem gw_1002 : (Cond.constantLong "RelayHall" 486 (4)) ∈ lw_G := x_gw (inT_4 _ (List.mem_of_getElem? (i := 42) rfl)) rfl
theorem gw_1003 : (Cond.methodLink "RelayHall" 488 ⟨"RelayHall", "faultOfMethod", "(LRelayHall$Channel;)I"⟩) ∈ lw_G := x_gw (inT_4 _ (List.mem_of_getElem? (i := 43) rfl)) rfl
theorem gw_1005 : (Cond.instanceMethod ⟨"RelayHall", "faultOfMethod", "(LRelayHall$Channel;)I"⟩) ∈ lw_G := x_gw (inT_4 _ (List.mem_of_getElem? (i := 45) rfl)) rfl
theorem gw_1006 : (Cond.code ⟨"RelayHall", "faultOfMethod", "(LRelayHall$Channel;)I"⟩ prog_1_method_52_code 3 (some .int)) ∈ lw_G := x_gw (inT_4 _ (List.mem_of_getElem? (i := 46) rfl)) rfl
theorem gw_1007 : (Cond.constant "RelayHall" 494 (1310730)) ∈ lw_G := x_gw (inT_4 _ (List.mem_of_getElem? (i := 47) rfl)) rfl
theorem gw_1008 : (Cond.methodLink "RelayHall" 135 ⟨"RelayHall", "perform", "(LRelayHall$Channel;)V"⟩) ∈ lw_G := x_gw (inT_4 _ (List.mem_of_getElem? (i := 48) rfl)) rfl
theorem gw_1010 : (Cond.instanceMethod ⟨"RelayHall", "perform", "(LRelayHall$Channel;)V"⟩) ∈ lw_G := x_gw (inT_4 _ (List.mem_of_getElem? (i := 50) rfl)) rfl
theorem gw_1011 : (Cond.code ⟨"RelayHall", "perform", "(LRelayHall$Channel;)V"⟩ prog_1_method_53_code 2 none) ∈ lw_G := x_gw (inT_4 _ (List.mem_of_getElem? (i := 51) rfl)) rfl
theorem gw_1012 : (Cond.methodLink "RelayHall" 495 ⟨"RelayHall", "closeHall", "(LRelayHall$Channel;)V"⟩) ∈ lw_G := x_gw (inT_4 _ (List.mem_of_getElem? (i := 52) rfl)) rfl
theorem gw_1014 : (Cond.instanceMethod ⟨"RelayHall", "closeHall", "(LRelayHall$Channel;)V"⟩) ∈ lw_G := x_gw (inT_4 _ (List.mem_of_getElem? (i := 54) rfl)) rfl
theorem gw_1015 : (Cond.code ⟨"RelayHall", "closeHall", "(LRelayHall$Channel;)V"⟩ prog_1_method_55_code 2 none) ∈ lw_G := x_gw (inT_4 _ (List.mem_of_getElem? (i := 55) rfl)) rfl
theorem gw_1020 : (Cond.methodLink "RelayHall" 563 ⟨"RelayHall", "argumentsEnd", "(LRelayHall$Channel;)Z"⟩) ∈ lw_G := x_gw (inT_4 _ (List.mem_of_getElem? (i := 60) rfl)) rfl
theorem gw_1022 : (Cond.instanceMethod ⟨"RelayHall", "argumentsEnd", "(LRelayHall$Channel;)Z"⟩) ∈ lw_G := x_gw (inT_4 _ (List.mem_of_getElem? (i := 62) rfl)) rfl
theorem gw_1023 : (Cond.code ⟨"RelayHall", "argumentsEnd", "(LRelayHall$Channel;)Z"⟩ prog_1_method_37_code 2 (some .boolean)) ∈ lw_G := x_gw (inT_4 _ (List.mem_of_getElem? (i := 63) rfl)) rfl
theorem gw_1024 : (Cond.methodLink "RelayHall" 498 ⟨"RelayHall", "openChannel", "(LRelayHall$Channel;)V"⟩) ∈ lw_G := x_gw (inT_4 _ (List.mem_of_getElem? (i := 64) rfl)) rfl
theorem gw_1026 : (Cond.instanceMethod ⟨"RelayHall", "openChannel", "(LRelayHall$Channel;)V"⟩) ∈ lw_G := x_gw (inT_4 _ (List.mem_of_getElem? (i := 66) rfl)) rfl
theorem gw_1027 : (Cond.code ⟨"RelayHall", "openChannel", "(LRelayHall$Channel;)V"⟩ prog_1_method_56_code 2 none) ∈ lw_G := x_gw (inT_4 _ (List.mem_of_getElem? (i := 67) rfl)) rfl
theorem gw_1028 : (Cond.methodLink "RelayHall" 567 ⟨"RelayHall$Channel", "restart", "()V"⟩) ∈ lw_G := x_gw (inT_4 _ (List.mem_of_getElem? (i := 68) rfl)) rfl
theorem gw_1029 : (Cond.instanceMethod ⟨"RelayHall$Channel", "restart", "()V"⟩) ∈ lw_G := x_gw (inT_4 _ (List.mem_of_getElem? (i := 69) rfl)) rfl
theorem gw_1030 : (Cond.selects "RelayHall$Channel" ⟨"RelayHall$Channel", "restart", "()V"⟩ ⟨"RelayHall$Channel", "restart", "()V"⟩) ∈ lw_G := x_gw (inT_4 _ (List.mem_of_getElem? (i := 70) rfl)) rfl
theorem gw_1031 : (Cond.code ⟨"RelayHall$Channel", "restart", "()V"⟩ prog_3_method_2_code 1 none) ∈ lw_G := x_gw (inT_4 _ (List.mem_of_getElem? (i := 71) rfl)) rfl
theorem gw_1032 : (Cond.methodLink "RelayHall$Channel" 86 ⟨"RelayHall$Channel", "forget", "()V"⟩) ∈ lw_G := x_gw (inT_4 _ (List.mem_of_getElem? (i := 72) rfl)) rfl
theorem gw_1033 : (Cond.instanceMethod ⟨"RelayHall$Channel", "forget", "()V"⟩) ∈ lw_G := x_gw (inT_4 _ (List.mem_of_getElem? (i := 73) rfl)) rfl
theorem gw_1034 : (Cond.selects "RelayHall$Channel" ⟨"RelayHall$Channel", "forget", "()V"⟩ ⟨"RelayHall$Channel", "forget", "()V"⟩) ∈ lw_G := x_gw (inT_4 _ (List.mem_of_getElem? (i := 74) rfl)) rfl
theorem gw_1035 : (Cond.code ⟨"RelayHall$Channel", "forget", "()V"⟩ prog_3_method_3_code 1 none) ∈ lw_G := x_gw (inT_4 _ (List.mem_of_getElem? (i := 75) rfl)) rfl
theorem gw_1036 : (Cond.methodLink "RelayHall$Channel" 89 ⟨"java/util/ArrayList", "clear", "()V"⟩) ∈ lw_G := x_gw (inT_4 _ (List.mem_of_getElem? (i := 76) rfl)) rfl
theorem gw_1037 : (Cond.instanceMethod ⟨"java/util/ArrayList", "clear", "()V"⟩) ∈ lw_G := x_gw (inT_4 _ (List.mem_of_getElem? (i := 77) rfl)) rfl
theorem gw_1038 : (Cond.selects "java/util/ArrayList" ⟨"java/util/ArrayList", "clear", "()V"⟩ ⟨"java/util/ArrayList", "clear", "()V"⟩) ∈ lw_G := x_gw (inT_4 _ (List.mem_of_getElem? (i := 78) rfl)) rfl
theorem gw_1039 : (Cond.code ⟨"java/util/ArrayList", "clear", "()V"⟩ prog_50_method_40_code 4 none) ∈ lw_G := x_gw (inT_4 _ (List.mem_of_getElem? (i := 79) rfl)) rfl
theorem gw_1040 : (Cond.constant "RelayHall" 569 (1310731)) ∈ lw_G := x_gw (inT_4 _ (List.mem_of_getElem? (i := 80) rfl)) rfl
theorem gw_1041 : (Cond.methodLink "RelayHall" 501 ⟨"RelayHall", "flow", "(LRelayHall$Channel;)V"⟩) ∈ lw_G := x_gw (inT_4 _ (List.mem_of_getElem? (i := 81) rfl)) rfl
theorem gw_1043 : (Cond.instanceMethod ⟨"RelayHall", "flow", "(LRelayHall$Channel;)V"⟩) ∈ lw_G := x_gw (inT_4 _ (List.mem_of_getElem? (i := 83) rfl)) rfl
theorem gw_1044 : (Cond.code ⟨"RelayHall", "flow", "(LRelayHall$Channel;)V"⟩ prog_1_method_57_code 3 none) ∈ lw_G := x_gw (inT_4 _ (List.mem_of_getElem? (i := 84) rfl)) rfl
theorem gw_1045 : (Cond.methodLink "RelayHall" 570 ⟨"RelayHall$Reader", "u8", "()I"⟩) ∈ lw_G := x_gw (inT_4 _ (List.mem_of_getElem? (i := 85) rfl)) rfl
theorem gw_1047 : (Cond.methodLink "RelayHall" 504 ⟨"RelayHall", "closeChannel", "(LRelayHall$Channel;)V"⟩) ∈ lw_G := x_gw (inT_4 _ (List.mem_of_getElem? (i := 87) rfl)) rfl
theorem gw_1049 : (Cond.instanceMethod ⟨"RelayHall", "closeChannel", "(LRelayHall$Channel;)V"⟩) ∈ lw_G := x_gw (inT_4 _ (List.mem_of_getElem? (i := 89) rfl)) rfl
theorem gw_1050 : (Cond.code ⟨"RelayHall", "closeChannel", "(LRelayHall$Channel;)V"⟩ prog_1_method_58_code 2 none) ∈ lw_G := x_gw (inT_4 _ (List.mem_of_getElem? (i := 90) rfl)) rfl
theorem gw_1051 : (Cond.methodLink "RelayHall" 507 ⟨"RelayHall", "declareExchange", "(LRelayHall$Channel;)V"⟩) ∈ lw_G := x_gw (inT_4 _ (List.mem_of_getElem? (i := 91) rfl)) rfl
theorem gw_1053 : (Cond.instanceMethod ⟨"RelayHall", "declareExchange", "(LRelayHall$Channel;)V"⟩) ∈ lw_G := x_gw (inT_4 _ (List.mem_of_getElem? (i := 93) rfl)) rfl
theorem gw_1054 : (Cond.code ⟨"RelayHall", "declareExchange", "(LRelayHall$Channel;)V"⟩ prog_1_method_59_code 7 none) ∈ lw_G := x_gw (inT_4 _ (List.mem_of_getElem? (i := 94) rfl)) rfl
theorem gw_1055 : (Cond.methodLink "RelayHall" 577 ⟨"RelayHall$Reader", "table", "()LRelayHall$Table;"⟩) ∈ lw_G := x_gw (inT_4 _ (List.mem_of_getElem? (i := 95) rfl)) rfl
theorem gw_1056 : (Cond.instanceMethod ⟨"RelayHall$Reader", "table", "()LRelayHall$Table;"⟩) ∈ lw_G := x_gw (inT_4 _ (List.mem_of_getElem? (i := 96) rfl)) rfl
theorem gw_1057 : (Cond.selects "RelayHall$Reader" ⟨"RelayHall$Reader", "table", "()LRelayHall$Table;"⟩ ⟨"RelayHall$Reader", "table", "()LRelayHall$Table;"⟩) ∈ lw_G := x_gw (inT_4 _ (List.mem_of_getElem? (i := 97) rfl)) rfl
theorem gw_1058 : (Cond.code ⟨"RelayHall$Reader", "table", "()LRelayHall$Table;"⟩ prog_11_method_9_code 2 (some (.object "RelayHall$Table"))) ∈ lw_G := x_gw (inT_4 _ (List.mem_of_getElem? (i := 98) rfl)) rfl
theorem gw_1059 : (Cond.classLink "RelayHall$Reader" 45 "RelayHall$Table") ∈ lw_G := x_gw (inT_4 _ (List.mem_of_getElem? (i := 99) rfl)) rfl
theorem gw_1060 : (Cond.instantiable "RelayHall$Table" 4) ∈ lw_G := x_gw (inT_4 _ (List.mem_of_getElem? (i := 100) rfl)) rfl
theorem gw_1061 : (Cond.methodLink "RelayHall$Reader" 47 ⟨"RelayHall$Reader", "u32", "()J"⟩) ∈ lw_G := x_gw (inT_4 _ (List.mem_of_getElem? (i := 101) rfl)) rfl
theorem gw_1062 : (Cond.methodLink "RelayHall$Reader" 51 ⟨"RelayHall$Table", "<init>", "(Ljava/lang/String;)V"⟩) ∈ lw_G := x_gw (inT_4 _ (List.mem_of_getElem? (i := 102) rfl)) rfl
theorem gw_1063 : (Cond.instanceMethod ⟨"RelayHall$Table", "<init>", "(Ljava/lang/String;)V"⟩) ∈ lw_G := x_gw (inT_4 _ (List.mem_of_getElem? (i := 103) rfl)) rfl
theorem gw_1064 : (Cond.code ⟨"RelayHall$Table", "<init>", "(Ljava/lang/String;)V"⟩ prog_12_method_1_code 2 none) ∈ lw_G := x_gw (inT_4 _ (List.mem_of_getElem? (i := 104) rfl)) rfl
theorem gw_1065 : (Cond.methodLink "RelayHall$Table" 3 ⟨"java/lang/Object", "<init>", "()V"⟩) ∈ lw_G := x_gw (inT_4 _ (List.mem_of_getElem? (i := 105) rfl)) rfl
theorem gw_1066 : (Cond.methodLink "RelayHall$Table" 19 ⟨"java/lang/String", "length", "()I"⟩) ∈ lw_G := x_gw (inT_4 _ (List.mem_of_getElem? (i := 106) rfl)) rfl
theorem gw_1067 : (Cond.instanceMethod ⟨"java/lang/String", "length", "()I"⟩) ∈ lw_G := x_gw (inT_4 _ (List.mem_of_getElem? (i := 107) rfl)) rfl
theorem gw_1068 : (Cond.selects "java/lang/String" ⟨"java/lang/String", "length", "()I"⟩ ⟨"java/lang/String", "length", "()I"⟩) ∈ lw_G := x_gw (inT_4 _ (List.mem_of_getElem? (i := 108) rfl)) rfl
theorem gw_1069 : (Cond.code ⟨"java/lang/String", "length", "()I"⟩ prog_41_method_54_code 1 (some .int)) ∈ lw_G := x_gw (inT_4 _ (List.mem_of_getElem? (i := 109) rfl)) rfl
theorem gw_1070 : (Cond.methodLink "java/lang/String" 335 ⟨"java/lang/String", "coder", "()B"⟩) ∈ lw_G := x_gw (inT_4 _ (List.mem_of_getElem? (i := 110) rfl)) rfl
theorem gw_1071 : (Cond.instanceMethod ⟨"java/lang/String", "coder", "()B"⟩) ∈ lw_G := x_gw (inT_4 _ (List.mem_of_getElem? (i := 111) rfl)) rfl
theorem gw_1072 : (Cond.selects "java/lang/String" ⟨"java/lang/String", "coder", "()B"⟩ ⟨"java/lang/String", "coder", "()B"⟩) ∈ lw_G := x_gw (inT_4 _ (List.mem_of_getElem? (i := 112) rfl)) rfl
theorem gw_1073 : (Cond.code ⟨"java/lang/String", "coder", "()B"⟩ prog_41_method_152_code 1 (some .byte)) ∈ lw_G := x_gw (inT_4 _ (List.mem_of_getElem? (i := 113) rfl)) rfl
theorem gw_1074 : (Cond.fieldLink "RelayHall$Table" 15 "RelayHall$Table" "raw" "Ljava/lang/String;") ∈ lw_G := x_gw (inT_4 _ (List.mem_of_getElem? (i := 114) rfl)) rfl
theorem gw_1076 : (Cond.fieldLink "RelayHall$Table" 9 "RelayHall$Table" "count" "I") ∈ lw_G := x_gw (inT_4 _ (List.mem_of_getElem? (i := 116) rfl)) rfl
theorem gw_1078 : (Cond.fieldLink "RelayHall$Table" 25 "RelayHall$Table" "from" "[I") ∈ lw_G := x_gw (inT_4 _ (List.mem_of_getElem? (i := 118) rfl)) rfl
theorem gw_1079 : (Cond.fieldLink "RelayHall$Table" 29 "RelayHall$Table" "to" "[I") ∈ lw_G := x_gw (inT_4 _ (List.mem_of_getElem? (i := 119) rfl)) rfl
theorem gw_1089 : (Cond.methodLink "RelayHall$Reader" 54 ⟨"RelayHall$Table", "scan", "()Z"⟩) ∈ lw_G := x_gw (inT_4 _ (List.mem_of_getElem? (i := 129) rfl)) rfl
theorem gw_1090 : (Cond.instanceMethod ⟨"RelayHall$Table", "scan", "()Z"⟩) ∈ lw_G := x_gw (inT_4 _ (List.mem_of_getElem? (i := 130) rfl)) rfl
theorem gw_1091 : (Cond.selects "RelayHall$Table" ⟨"RelayHall$Table", "scan", "()Z"⟩ ⟨"RelayHall$Table", "scan", "()Z"⟩) ∈ lw_G := x_gw (inT_4 _ (List.mem_of_getElem? (i := 131) rfl)) rfl
theorem gw_1092 : (Cond.code ⟨"RelayHall$Table", "scan", "()Z"⟩ prog_12_method_2_code 6 (some .boolean)) ∈ lw_G := x_gw (inT_4 _ (List.mem_of_getElem? (i := 132) rfl)) rfl
theorem gw_1093 : (Cond.methodLink "RelayHall$Table" 32 ⟨"java/lang/String", "charAt", "(I)C"⟩) ∈ lw_G := x_gw (inT_4 _ (List.mem_of_getElem? (i := 133) rfl)) rfl
theorem gw_1094 : (Cond.instanceMethod ⟨"java/lang/String", "charAt", "(I)C"⟩) ∈ lw_G := x_gw (inT_4 _ (List.mem_of_getElem? (i := 134) rfl)) rfl
theorem gw_1095 : (Cond.selects "java/lang/String" ⟨"java/lang/String", "charAt", "(I)C"⟩ ⟨"java/lang/String", "charAt", "(I)C"⟩) ∈ lw_G := x_gw (inT_4 _ (List.mem_of_getElem? (i := 135) rfl)) rfl
theorem gw_1096 : (Cond.code ⟨"java/lang/String", "charAt", "(I)C"⟩ prog_41_method_56_code 2 (some .char)) ∈ lw_G := x_gw (inT_4 _ (List.mem_of_getElem? (i := 136) rfl)) rfl
theorem gw_1097 : (Cond.methodLink "java/lang/String" 492 ⟨"java/lang/String", "isLatin1", "()Z"⟩) ∈ lw_G := x_gw (inT_4 _ (List.mem_of_getElem? (i := 137) rfl)) rfl
theorem gw_1098 : (Cond.instanceMethod ⟨"java/lang/String", "isLatin1", "()Z"⟩) ∈ lw_G := x_gw (inT_4 _ (List.mem_of_getElem? (i := 138) rfl)) rfl
theorem gw_1099 : (Cond.selects "java/lang/String" ⟨"java/lang/String", "isLatin1", "()Z"⟩ ⟨"java/lang/String", "isLatin1", "()Z"⟩) ∈ lw_G := x_gw (inT_4 _ (List.mem_of_getElem? (i := 139) rfl)) rfl
theorem gw_1100 : (Cond.code ⟨"java/lang/String", "isLatin1", "()Z"⟩ prog_41_method_154_code 1 (some .boolean)) ∈ lw_G := x_gw (inT_4 _ (List.mem_of_getElem? (i := 140) rfl)) rfl
theorem gw_1101 : (Cond.methodLink "java/lang/String" 495 ⟨"java/lang/StringLatin1", "charAt", "([BI)C"⟩) ∈ lw_G := x_gw (inT_4 _ (List.mem_of_getElem? (i := 141) rfl)) rfl
theorem gw_1102 : (Cond.static ⟨"java/lang/StringLatin1", "charAt", "([BI)C"⟩) ∈ lw_G := x_gw (inT_4 _ (List.mem_of_getElem? (i := 142) rfl)) rfl
theorem gw_1103 : (Cond.code ⟨"java/lang/StringLatin1", "charAt", "([BI)C"⟩ prog_44_method_2_code 2 (some .char)) ∈ lw_G := x_gw (inT_4 _ (List.mem_of_getElem? (i := 143) rfl)) rfl
theorem gw_1104 : (Cond.methodLink "java/lang/StringLatin1" 9 ⟨"java/lang/String", "checkIndex", "(II)V"⟩) ∈ lw_G := x_gw (inT_4 _ (List.mem_of_getElem? (i := 144) rfl)) rfl
theorem gw_1105 : (Cond.static ⟨"java/lang/String", "checkIndex", "(II)V"⟩) ∈ lw_G := x_gw (inT_4 _ (List.mem_of_getElem? (i := 145) rfl)) rfl
theorem gw_1106 : (Cond.code ⟨"java/lang/String", "checkIndex", "(II)V"⟩ prog_41_method_155_code 2 none) ∈ lw_G := x_gw (inT_4 _ (List.mem_of_getElem? (i := 146) rfl)) rfl
theorem gw_1107 : (Cond.methodLink "java/lang/String" 1059 ⟨"jdk/internal/util/Preconditions", "checkIndex", "(IILjava/util/function/BiFunction;)I"⟩) ∈ lw_G := x_gw (inT_4 _ (List.mem_of_getElem? (i := 147) rfl)) rfl
theorem gw_1108 : (Cond.static ⟨"jdk/internal/util/Preconditions", "checkIndex", "(IILjava/util/function/BiFunction;)I"⟩) ∈ lw_G := x_gw (inT_4 _ (List.mem_of_getElem? (i := 148) rfl)) rfl
theorem gw_1109 : (Cond.code ⟨"jdk/internal/util/Preconditions", "checkIndex", "(IILjava/util/function/BiFunction;)I"⟩ prog_59_method_11_code 3 (some .int)) ∈ lw_G := x_gw (inT_4 _ (List.mem_of_getElem? (i := 149) rfl)) rfl
theorem gw_1110 : (Cond.methodLink "java/lang/String" 498 ⟨"java/lang/StringUTF16", "charAt", "([BI)C"⟩) ∈ lw_G := x_gw (inT_4 _ (List.mem_of_getElem? (i := 150) rfl)) rfl
theorem gw_1111 : (Cond.static ⟨"java/lang/StringUTF16", "charAt", "([BI)C"⟩) ∈ lw_G := x_gw (inT_4 _ (List.mem_of_getElem? (i := 151) rfl)) rfl
theorem gw_1112 : (Cond.code ⟨"java/lang/StringUTF16", "charAt", "([BI)C"⟩ prog_45_method_83_code 2 (some .char)) ∈ lw_G := x_gw (inT_4 _ (List.mem_of_getElem? (i := 152) rfl)) rfl
theorem gw_1117 : (Cond.methodLink "RelayHall$Table" 36 ⟨"RelayHall$Table", "endOfValue", "(I)I"⟩) ∈ lw_G := x_gw (inT_4 _ (List.mem_of_getElem? (i := 157) rfl)) rfl
theorem gw_1119 : (Cond.instanceMethod ⟨"RelayHall$Table", "endOfValue", "(I)I"⟩) ∈ lw_G := x_gw (inT_4 _ (List.mem_of_getElem? (i := 159) rfl)) rfl
theorem gw_1120 : (Cond.code ⟨"RelayHall$Table", "endOfValue", "(I)I"⟩ prog_12_method_3_code 5 (some .int)) ∈ lw_G := x_gw (inT_4 _ (List.mem_of_getElem? (i := 160) rfl)) rfl
theorem gw_1125 : (Cond.methodLink "RelayHall$Table" 40 ⟨"java/lang/String", "substring", "(II)Ljava/lang/String;"⟩) ∈ lw_G := x_gw (inT_4 _ (List.mem_of_getElem? (i := 165) rfl)) rfl
theorem gw_1126 : (Cond.instanceMethod ⟨"java/lang/String", "substring", "(II)Ljava/lang/String;"⟩) ∈ lw_G := x_gw (inT_4 _ (List.mem_of_getElem? (i := 166) rfl)) rfl
theorem gw_1127 : (Cond.selects "java/lang/String" ⟨"java/lang/String", "substring", "(II)Ljava/lang/String;"⟩ ⟨"java/lang/String", "substring", "(II)Ljava/lang/String;"⟩) ∈ lw_G := x_gw (inT_4 _ (List.mem_of_getElem? (i := 167) rfl)) rfl
theorem gw_1128 : (Cond.code ⟨"java/lang/String", "substring", "(II)Ljava/lang/String;"⟩ prog_41_method_92_code 5 (some (.object "java/lang/String"))) ∈ lw_G := x_gw (inT_4 _ (List.mem_of_getElem? (i := 168) rfl)) rfl
theorem gw_1357 : (Cond.methodLink "RelayHall$Table" 44 ⟨"RelayHall$Table", "find", "(Ljava/lang/String;)I"⟩) ∈ lw_G := x_gw (inT_5 _ (List.mem_of_getElem? (i := 157) rfl)) rfl
theorem gw_1358 : (Cond.instanceMethod ⟨"RelayHall$Table", "find", "(Ljava/lang/String;)I"⟩) ∈ lw_G := x_gw (inT_5 _ (List.mem_of_getElem? (i := 158) rfl)) rfl
theorem gw_1359 : (Cond.selects "RelayHall$Table" ⟨"RelayHall$Table", "find", "(Ljava/lang/String;)I"⟩ ⟨"RelayHall$Table", "find", "(Ljava/lang/String;)I"⟩) ∈ lw_G := x_gw (inT_5 _ (List.mem_of_getElem? (i := 159) rfl)) rfl
theorem gw_1360 : (Cond.code ⟨"RelayHall$Table", "find", "(Ljava/lang/String;)I"⟩ prog_12_method_5_code 6 (some .int)) ∈ lw_G := x_gw (inT_5 _ (List.mem_of_getElem? (i := 160) rfl)) rfl
theorem gw_1369 : (Cond.methodLink "RelayHall" 174 ⟨"java/util/ArrayList", "size", "()I"⟩) ∈ lw_G := x_gw (inT_5 _ (List.mem_of_getElem? (i := 169) rfl)) rfl
theorem gw_1370 : (Cond.instanceMethod ⟨"java/util/ArrayList", "size", "()I"⟩) ∈ lw_G := x_gw (inT_5 _ (List.mem_of_getElem? (i := 170) rfl)) rfl
theorem gw_1371 : (Cond.selects "java/util/ArrayList" ⟨"java/util/ArrayList", "size", "()I"⟩ ⟨"java/util/ArrayList", "size", "()I"⟩) ∈ lw_G := x_gw (inT_5 _ (List.mem_of_getElem? (i := 171) rfl)) rfl
theorem gw_1372 : (Cond.code ⟨"java/util/ArrayList", "size", "()I"⟩ prog_50_method_8_code 1 (some .int)) ∈ lw_G := x_gw (inT_5 _ (List.mem_of_getElem? (i := 172) rfl)) rfl
theorem gw_1373 : (Cond.methodLink "RelayHall" 227 ⟨"java/util/ArrayList", "get", "(I)Ljava/lang/Object;"⟩) ∈ lw_G := x_gw (inT_5 _ (List.mem_of_getElem? (i := 173) rfl)) rfl
theorem gw_1374 : (Cond.instanceMethod ⟨"java/util/ArrayList", "get", "(I)Ljava/lang/Object;"⟩) ∈ lw_G := x_gw (inT_5 _ (List.mem_of_getElem? (i := 174) rfl)) rfl
theorem gw_1375 : (Cond.selects "java/util/ArrayList" ⟨"java/util/ArrayList", "get", "(I)Ljava/lang/Object;"⟩ ⟨"java/util/ArrayList", "get", "(I)Ljava/lang/Object;"⟩) ∈ lw_G := x_gw (inT_5 _ (List.mem_of_getElem? (i := 175) rfl)) rfl
theorem gw_1376 : (Cond.code ⟨"java/util/ArrayList", "get", "(I)Ljava/lang/Object;"⟩ prog_50_method_20_code 2 (some (.object "java/lang/Object"))) ∈ lw_G := x_gw (inT_5 _ (List.mem_of_getElem? (i := 176) rfl)) rfl
theorem gw_1377 : (Cond.methodLink "java/util/ArrayList" 118 ⟨"java/util/Objects", "checkIndex", "(II)I"⟩) ∈ lw_G := x_gw (inT_5 _ (List.mem_of_getElem? (i := 177) rfl)) rfl
theorem gw_1378 : (Cond.static ⟨"java/util/Objects", "checkIndex", "(II)I"⟩) ∈ lw_G := x_gw (inT_5 _ (List.mem_of_getElem? (i := 178) rfl)) rfl
theorem gw_1379 : (Cond.code ⟨"java/util/Objects", "checkIndex", "(II)I"⟩ prog_55_method_17_code 2 (some .int)) ∈ lw_G := x_gw (inT_5 _ (List.mem_of_getElem? (i := 179) rfl)) rfl
theorem gw_1380 : (Cond.methodLink "java/util/Objects" 105 ⟨"jdk/internal/util/Preconditions", "checkIndex", "(IILjava/util/function/BiFunction;)I"⟩) ∈ lw_G := x_gw (inT_5 _ (List.mem_of_getElem? (i := 180) rfl)) rfl
theorem gw_1381 : (Cond.methodLink "java/util/ArrayList" 123 ⟨"java/util/ArrayList", "elementData", "(I)Ljava/lang/Object;"⟩) ∈ lw_G := x_gw (inT_5 _ (List.mem_of_getElem? (i := 181) rfl)) rfl
theorem gw_1382 : (Cond.instanceMethod ⟨"java/util/ArrayList", "elementData", "(I)Ljava/lang/Object;"⟩) ∈ lw_G := x_gw (inT_5 _ (List.mem_of_getElem? (i := 182) rfl)) rfl
theorem gw_1383 : (Cond.selects "java/util/ArrayList" ⟨"java/util/ArrayList", "elementData", "(I)Ljava/lang/Object;"⟩ ⟨"java/util/ArrayList", "elementData", "(I)Ljava/lang/Object;"⟩) ∈ lw_G := x_gw (inT_5 _ (List.mem_of_getElem? (i := 183) rfl)) rfl
theorem gw_1384 : (Cond.code ⟨"java/util/ArrayList", "elementData", "(I)Ljava/lang/Object;"⟩ prog_50_method_18_code 2 (some (.object "java/lang/Object"))) ∈ lw_G := x_gw (inT_5 _ (List.mem_of_getElem? (i := 184) rfl)) rfl
theorem gw_1426 : (Cond.methodLink "RelayHall" 510 ⟨"RelayHall", "deleteExchange", "(LRelayHall$Channel;)V"⟩) ∈ lw_G := x_gw (inT_5 _ (List.mem_of_getElem? (i := 226) rfl)) rfl
theorem gw_1428 : (Cond.instanceMethod ⟨"RelayHall", "deleteExchange", "(LRelayHall$Channel;)V"⟩) ∈ lw_G := x_gw (inT_5 _ (List.mem_of_getElem? (i := 228) rfl)) rfl
theorem gw_1429 : (Cond.code ⟨"RelayHall", "deleteExchange", "(LRelayHall$Channel;)V"⟩ prog_1_method_61_code 5 none) ∈ lw_G := x_gw (inT_5 _ (List.mem_of_getElem? (i := 229) rfl)) rfl
theorem gw_1443 : (Cond.methodLink "RelayHall" 620 ⟨"java/util/ArrayList", "remove", "(I)Ljava/lang/Object;"⟩) ∈ lw_G := x_gw (inT_6 _ (List.mem_of_getElem? (i := 3) rfl)) rfl
theorem gw_1444 : (Cond.instanceMethod ⟨"java/util/ArrayList", "remove", "(I)Ljava/lang/Object;"⟩) ∈ lw_G := x_gw (inT_6 _ (List.mem_of_getElem? (i := 4) rfl)) rfl
theorem gw_1445 : (Cond.selects "java/util/ArrayList" ⟨"java/util/ArrayList", "remove", "(I)Ljava/lang/Object;"⟩ ⟨"java/util/ArrayList", "remove", "(I)Ljava/lang/Object;"⟩) ∈ lw_G := x_gw (inT_6 _ (List.mem_of_getElem? (i := 5) rfl)) rfl
theorem gw_1446 : (Cond.code ⟨"java/util/ArrayList", "remove", "(I)Ljava/lang/Object;"⟩ prog_50_method_29_code 4 (some (.object "java/lang/Object"))) ∈ lw_G := x_gw (inT_6 _ (List.mem_of_getElem? (i := 6) rfl)) rfl
theorem gw_1453 : (Cond.methodLink "RelayHall" 513 ⟨"RelayHall", "declareQueue", "(LRelayHall$Channel;)V"⟩) ∈ lw_G := x_gw (inT_6 _ (List.mem_of_getElem? (i := 13) rfl)) rfl
theorem gw_1455 : (Cond.instanceMethod ⟨"RelayHall", "declareQueue", "(LRelayHall$Channel;)V"⟩) ∈ lw_G := x_gw (inT_6 _ (List.mem_of_getElem? (i := 15) rfl)) rfl
theorem gw_1456 : (Cond.code ⟨"RelayHall", "declareQueue", "(LRelayHall$Channel;)V"⟩ prog_1_method_64_code 7 none) ∈ lw_G := x_gw (inT_6 _ (List.mem_of_getElem? (i := 16) rfl)) rfl
theorem gw_1457 : (Cond.methodLink "RelayHall" 623 ⟨"RelayHall", "lookedFor", "(LRelayHall$Channel;Ljava/lang/String;)LRelayHall$Queue;"⟩) ∈ lw_G := x_gw (inT_6 _ (List.mem_of_getElem? (i := 17) rfl)) rfl
theorem gw_1459 : (Cond.instanceMethod ⟨"RelayHall", "lookedFor", "(LRelayHall$Channel;Ljava/lang/String;)LRelayHall$Queue;"⟩) ∈ lw_G := x_gw (inT_6 _ (List.mem_of_getElem? (i := 19) rfl)) rfl
theorem gw_1460 : (Cond.code ⟨"RelayHall", "lookedFor", "(LRelayHall$Channel;Ljava/lang/String;)LRelayHall$Queue;"⟩ prog_1_method_65_code 4 (some (.object "RelayHall$Queue"))) ∈ lw_G := x_gw (inT_6 _ (List.mem_of_getElem? (i := 20) rfl)) rfl
theorem gw_1465 : (Cond.classLink "RelayHall" 231 "RelayHall$Queue") ∈ lw_G := x_gw (inT_6 _ (List.mem_of_getElem? (i := 25) rfl)) rfl
theorem gw_1470 : (Cond.methodLink "RelayHall" 627 ⟨"RelayHall", "makeQueue", "(LRelayHall$Channel;Ljava/lang/String;ILRelayHall$Table;)LRelayHall$Queue;"⟩) ∈ lw_G := x_gw (inT_6 _ (List.mem_of_getElem? (i := 30) rfl)) rfl
theorem gw_1472 : (Cond.instanceMethod ⟨"RelayHall", "makeQueue", "(LRelayHall$Channel;Ljava/lang/String;ILRelayHall$Table;)LRelayHall$Queue;"⟩) ∈ lw_G := x_gw (inT_6 _ (List.mem_of_getElem? (i := 32) rfl)) rfl
theorem gw_1473 : (Cond.code ⟨"RelayHall", "makeQueue", "(LRelayHall$Channel;Ljava/lang/String;ILRelayHall$Table;)LRelayHall$Queue;"⟩ prog_1_method_67_code 9 (some (.object "RelayHall$Queue"))) ∈ lw_G := x_gw (inT_6 _ (List.mem_of_getElem? (i := 33) rfl)) rfl
theorem gw_1558 : (Cond.fieldLink "RelayHall" 245 "RelayHall$Queue" "name" "Ljava/lang/String;") ∈ lw_G := x_gw (inT_6 _ (List.mem_of_getElem? (i := 118) rfl)) rfl
theorem gw_1562 : (Cond.fieldLink "RelayHall" 378 "RelayHall$Queue" "owner" "LRelayHall$Connection;") ∈ lw_G := x_gw (inT_6 _ (List.mem_of_getElem? (i := 122) rfl)) rfl
theorem gw_1581 : (Cond.fieldLink "RelayHall" 233 "RelayHall$Queue" "ready" "Ljava/util/ArrayList;") ∈ lw_G := x_gw (inT_6 _ (List.mem_of_getElem? (i := 141) rfl)) rfl
theorem gw_1641 : (Cond.constant "RelayHall" 634 (3276811)) ∈ lw_G := x_gw (inT_6 _ (List.mem_of_getElem? (i := 201) rfl)) rfl
theorem gw_1642 : (Cond.methodLink "RelayHall" 346 ⟨"RelayHall$Connection", "text", "(Ljava/lang/String;)V"⟩) ∈ lw_G := x_gw (inT_6 _ (List.mem_of_getElem? (i := 202) rfl)) rfl
theorem gw_1643 : (Cond.instanceMethod ⟨"RelayHall$Connection", "text", "(Ljava/lang/String;)V"⟩) ∈ lw_G := x_gw (inT_6 _ (List.mem_of_getElem? (i := 203) rfl)) rfl
theorem gw_1644 : (Cond.selects "RelayHall$Connection" ⟨"RelayHall$Connection", "text", "(Ljava/lang/String;)V"⟩ ⟨"RelayHall$Connection", "text", "(Ljava/lang/String;)V"⟩) ∈ lw_G := x_gw (inT_6 _ (List.mem_of_getElem? (i := 204) rfl)) rfl
theorem gw_1645 : (Cond.code ⟨"RelayHall$Connection", "text", "(Ljava/lang/String;)V"⟩ prog_4_method_15_code 3 none) ∈ lw_G := x_gw (inT_6 _ (List.mem_of_getElem? (i := 205) rfl)) rfl
theorem gw_1648 : (Cond.methodLink "RelayHall" 238 ⟨"RelayHall", "consumersOf", "(LRelayHall$Queue;)I"⟩) ∈ lw_G := x_gw (inT_6 _ (List.mem_of_getElem? (i := 208) rfl)) rfl
theorem gw_1650 : (Cond.instanceMethod ⟨"RelayHall", "consumersOf", "(LRelayHall$Queue;)I"⟩) ∈ lw_G := x_gw (inT_6 _ (List.mem_of_getElem? (i := 210) rfl)) rfl
theorem gw_1651 : (Cond.code ⟨"RelayHall", "consumersOf", "(LRelayHall$Queue;)I"⟩ prog_1_method_23_code 4 (some .int)) ∈ lw_G := x_gw (inT_6 _ (List.mem_of_getElem? (i := 211) rfl)) rfl
theorem gw_1652 : (Cond.classLink "RelayHall" 290 "RelayHall$Consumer") ∈ lw_G := x_gw (inT_6 _ (List.mem_of_getElem? (i := 212) rfl)) rfl
theorem gw_1653 : (Cond.methodLink "RelayHall" 516 ⟨"RelayHall", "bind", "(LRelayHall$Channel;)V"⟩) ∈ lw_G := x_gw (inT_6 _ (List.mem_of_getElem? (i := 213) rfl)) rfl
theorem gw_1655 : (Cond.instanceMethod ⟨"RelayHall", "bind", "(LRelayHall$Channel;)V"⟩) ∈ lw_G := x_gw (inT_6 _ (List.mem_of_getElem? (i := 215) rfl)) rfl
theorem gw_1656 : (Cond.code ⟨"RelayHall", "bind", "(LRelayHall$Channel;)V"⟩ prog_1_method_70_code 10 none) ∈ lw_G := x_gw (inT_6 _ (List.mem_of_getElem? (i := 216) rfl)) rfl
theorem gw_1715 : (Cond.methodLink "RelayHall" 519 ⟨"RelayHall", "unbind", "(LRelayHall$Channel;)V"⟩) ∈ lw_G := x_gw (inT_7 _ (List.mem_of_getElem? (i := 35) rfl)) rfl
theorem gw_1717 : (Cond.instanceMethod ⟨"RelayHall", "unbind", "(LRelayHall$Channel;)V"⟩) ∈ lw_G := x_gw (inT_7 _ (List.mem_of_getElem? (i := 37) rfl)) rfl
theorem gw_1718 : (Cond.code ⟨"RelayHall", "unbind", "(LRelayHall$Channel;)V"⟩ prog_1_method_71_code 10 none) ∈ lw_G := x_gw (inT_7 _ (List.mem_of_getElem? (i := 38) rfl)) rfl
theorem gw_1720 : (Cond.methodLink "RelayHall" 522 ⟨"RelayHall", "purge", "(LRelayHall$Channel;)V"⟩) ∈ lw_G := x_gw (inT_7 _ (List.mem_of_getElem? (i := 40) rfl)) rfl
theorem gw_1722 : (Cond.instanceMethod ⟨"RelayHall", "purge", "(LRelayHall$Channel;)V"⟩) ∈ lw_G := x_gw (inT_7 _ (List.mem_of_getElem? (i := 42) rfl)) rfl
theorem gw_1723 : (Cond.code ⟨"RelayHall", "purge", "(LRelayHall$Channel;)V"⟩ prog_1_method_72_code 7 none) ∈ lw_G := x_gw (inT_7 _ (List.mem_of_getElem? (i := 43) rfl)) rfl
theorem gw_1724 : (Cond.classLink "RelayHall" 696 "RelayHall$Message") ∈ lw_G := x_gw (inT_7 _ (List.mem_of_getElem? (i := 44) rfl)) rfl
theorem gw_1730 : (Cond.methodLink "RelayHall" 525 ⟨"RelayHall", "deleteQueue", "(LRelayHall$Channel;)V"⟩) ∈ lw_G := x_gw (inT_7 _ (List.mem_of_getElem? (i := 50) rfl)) rfl
theorem gw_1732 : (Cond.instanceMethod ⟨"RelayHall", "deleteQueue", "(LRelayHall$Channel;)V"⟩) ∈ lw_G := x_gw (inT_7 _ (List.mem_of_getElem? (i := 52) rfl)) rfl
theorem gw_1733 : (Cond.code ⟨"RelayHall", "deleteQueue", "(LRelayHall$Channel;)V"⟩ prog_1_method_73_code 6 none) ∈ lw_G := x_gw (inT_7 _ (List.mem_of_getElem? (i := 53) rfl)) rfl
theorem gw_1734 : (Cond.methodLink "RelayHall" 381 ⟨"RelayHall", "removeQueue", "(LRelayHall$Queue;)V"⟩) ∈ lw_G := x_gw (inT_7 _ (List.mem_of_getElem? (i := 54) rfl)) rfl
theorem gw_1736 : (Cond.instanceMethod ⟨"RelayHall", "removeQueue", "(LRelayHall$Queue;)V"⟩) ∈ lw_G := x_gw (inT_7 _ (List.mem_of_getElem? (i := 56) rfl)) rfl
theorem gw_1737 : (Cond.code ⟨"RelayHall", "removeQueue", "(LRelayHall$Queue;)V"⟩ prog_1_method_75_code 5 none) ∈ lw_G := x_gw (inT_7 _ (List.mem_of_getElem? (i := 57) rfl)) rfl
theorem gw_1748 : (Cond.methodLink "RelayHall" 528 ⟨"RelayHall", "limit", "(LRelayHall$Channel;)V"⟩) ∈ lw_G := x_gw (inT_7 _ (List.mem_of_getElem? (i := 68) rfl)) rfl
theorem gw_1750 : (Cond.instanceMethod ⟨"RelayHall", "limit", "(LRelayHall$Channel;)V"⟩) ∈ lw_G := x_gw (inT_7 _ (List.mem_of_getElem? (i := 70) rfl)) rfl
theorem gw_1751 : (Cond.code ⟨"RelayHall", "limit", "(LRelayHall$Channel;)V"⟩ prog_1_method_91_code 4 none) ∈ lw_G := x_gw (inT_7 _ (List.mem_of_getElem? (i := 71) rfl)) rfl
theorem gw_1753 : (Cond.methodLink "RelayHall" 531 ⟨"RelayHall", "consume", "(LRelayHall$Channel;)V"⟩) ∈ lw_G := x_gw (inT_7 _ (List.mem_of_getElem? (i := 73) rfl)) rfl
theorem gw_1755 : (Cond.instanceMethod ⟨"RelayHall", "consume", "(LRelayHall$Channel;)V"⟩) ∈ lw_G := x_gw (inT_7 _ (List.mem_of_getElem? (i := 75) rfl)) rfl
theorem gw_1756 : (Cond.code ⟨"RelayHall", "consume", "(LRelayHall$Channel;)V"⟩ prog_1_method_92_code 7 none) ∈ lw_G := x_gw (inT_7 _ (List.mem_of_getElem? (i := 76) rfl)) rfl
theorem gw_1776 : (Cond.fieldLink "RelayHall" 292 "RelayHall$Consumer" "channel" "LRelayHall$Channel;") ∈ lw_G := x_gw (inT_7 _ (List.mem_of_getElem? (i := 96) rfl)) rfl
theorem gw_1808 : (Cond.methodLink "RelayHall" 534 ⟨"RelayHall", "cancel", "(LRelayHall$Channel;)V"⟩) ∈ lw_G := x_gw (inT_7 _ (List.mem_of_getElem? (i := 128) rfl)) rfl
theorem gw_1810 : (Cond.instanceMethod ⟨"RelayHall", "cancel", "(LRelayHall$Channel;)V"⟩) ∈ lw_G := x_gw (inT_7 _ (List.mem_of_getElem? (i := 130) rfl)) rfl
theorem gw_1811 : (Cond.code ⟨"RelayHall", "cancel", "(LRelayHall$Channel;)V"⟩ prog_1_method_94_code 5 none) ∈ lw_G := x_gw (inT_7 _ (List.mem_of_getElem? (i := 131) rfl)) rfl
theorem gw_1812 : (Cond.methodLink "RelayHall" 385 ⟨"RelayHall", "removeConsumer", "(I)V"⟩) ∈ lw_G := x_gw (inT_7 _ (List.mem_of_getElem? (i := 132) rfl)) rfl
theorem gw_1814 : (Cond.instanceMethod ⟨"RelayHall", "removeConsumer", "(I)V"⟩) ∈ lw_G := x_gw (inT_7 _ (List.mem_of_getElem? (i := 134) rfl)) rfl
theorem gw_1815 : (Cond.code ⟨"RelayHall", "removeConsumer", "(I)V"⟩ prog_1_method_95_code 3 none) ∈ lw_G := x_gw (inT_7 _ (List.mem_of_getElem? (i := 135) rfl)) rfl
theorem gw_1817 : (Cond.methodLink "RelayHall" 537 ⟨"RelayHall", "beginContent", "(LRelayHall$Channel;)V"⟩) ∈ lw_G := x_gw (inT_7 _ (List.mem_of_getElem? (i := 137) rfl)) rfl
theorem gw_1819 : (Cond.instanceMethod ⟨"RelayHall", "beginContent", "(LRelayHall$Channel;)V"⟩) ∈ lw_G := x_gw (inT_7 _ (List.mem_of_getElem? (i := 139) rfl)) rfl
theorem gw_1820 : (Cond.code ⟨"RelayHall", "beginContent", "(LRelayHall$Channel;)V"⟩ prog_1_method_77_code 6 none) ∈ lw_G := x_gw (inT_7 _ (List.mem_of_getElem? (i := 140) rfl)) rfl
theorem gw_1903 : (Cond.methodLink "RelayHall" 540 ⟨"RelayHall", "get", "(LRelayHall$Channel;)V"⟩) ∈ lw_G := x_gw (inT_7 _ (List.mem_of_getElem? (i := 223) rfl)) rfl
theorem gw_1905 : (Cond.instanceMethod ⟨"RelayHall", "get", "(LRelayHall$Channel;)V"⟩) ∈ lw_G := x_gw (inT_7 _ (List.mem_of_getElem? (i := 225) rfl)) rfl
theorem gw_1906 : (Cond.code ⟨"RelayHall", "get", "(LRelayHall$Channel;)V"⟩ prog_1_method_101_code 7 none) ∈ lw_G := x_gw (inT_7 _ (List.mem_of_getElem? (i := 226) rfl)) rfl
theorem gw_1907 : (Cond.methodLink "RelayHall" 782 ⟨"java/util/ArrayList", "isEmpty", "()Z"⟩) ∈ lw_G := x_gw (inT_7 _ (List.mem_of_getElem? (i := 227) rfl)) rfl
theorem gw_1908 : (Cond.instanceMethod ⟨"java/util/ArrayList", "isEmpty", "()Z"⟩) ∈ lw_G := x_gw (inT_7 _ (List.mem_of_getElem? (i := 228) rfl)) rfl
theorem gw_1909 : (Cond.selects "java/util/ArrayList" ⟨"java/util/ArrayList", "isEmpty", "()Z"⟩ ⟨"java/util/ArrayList", "isEmpty", "()Z"⟩) ∈ lw_G := x_gw (inT_7 _ (List.mem_of_getElem? (i := 229) rfl)) rfl
theorem gw_1910 : (Cond.code ⟨"java/util/ArrayList", "isEmpty", "()Z"⟩ prog_50_method_9_code 1 (some .boolean)) ∈ lw_G := x_gw (inT_7 _ (List.mem_of_getElem? (i := 230) rfl)) rfl
theorem gw_1940 : (Cond.methodLink "RelayHall" 542 ⟨"RelayHall", "acknowledge", "(LRelayHall$Channel;)V"⟩) ∈ lw_G := x_gw (inT_8 _ (List.mem_of_getElem? (i := 20) rfl)) rfl
theorem gw_1942 : (Cond.instanceMethod ⟨"RelayHall", "acknowledge", "(LRelayHall$Channel;)V"⟩) ∈ lw_G := x_gw (inT_8 _ (List.mem_of_getElem? (i := 22) rfl)) rfl
theorem gw_1943 : (Cond.code ⟨"RelayHall", "acknowledge", "(LRelayHall$Channel;)V"⟩ prog_1_method_102_code 10 none) ∈ lw_G := x_gw (inT_8 _ (List.mem_of_getElem? (i := 23) rfl)) rfl
theorem gw_1965 : (Cond.methodLink "RelayHall" 388 ⟨"RelayHall", "finish", "(LRelayHall$Channel;II)V"⟩) ∈ lw_G := x_gw (inT_8 _ (List.mem_of_getElem? (i := 45) rfl)) rfl
theorem gw_1967 : (Cond.instanceMethod ⟨"RelayHall", "finish", "(LRelayHall$Channel;II)V"⟩) ∈ lw_G := x_gw (inT_8 _ (List.mem_of_getElem? (i := 47) rfl)) rfl
theorem gw_1968 : (Cond.code ⟨"RelayHall", "finish", "(LRelayHall$Channel;II)V"⟩ prog_1_method_105_code 6 none) ∈ lw_G := x_gw (inT_8 _ (List.mem_of_getElem? (i := 48) rfl)) rfl
theorem gw_2015 : (Cond.methodLink "RelayHall" 545 ⟨"RelayHall", "recover", "(LRelayHall$Channel;)V"⟩) ∈ lw_G := x_gw (inT_8 _ (List.mem_of_getElem? (i := 95) rfl)) rfl
theorem gw_2017 : (Cond.instanceMethod ⟨"RelayHall", "recover", "(LRelayHall$Channel;)V"⟩) ∈ lw_G := x_gw (inT_8 _ (List.mem_of_getElem? (i := 97) rfl)) rfl
theorem gw_2018 : (Cond.code ⟨"RelayHall", "recover", "(LRelayHall$Channel;)V"⟩ prog_1_method_103_code 3 none) ∈ lw_G := x_gw (inT_8 _ (List.mem_of_getElem? (i := 98) rfl)) rfl
theorem gw_2020 : (Cond.methodLink "RelayHall" 548 ⟨"RelayHall", "selectConfirms", "(LRelayHall$Channel;)V"⟩) ∈ lw_G := x_gw (inT_8 _ (List.mem_of_getElem? (i := 100) rfl)) rfl
theorem gw_2022 : (Cond.instanceMethod ⟨"RelayHall", "selectConfirms", "(LRelayHall$Channel;)V"⟩) ∈ lw_G := x_gw (inT_8 _ (List.mem_of_getElem? (i := 102) rfl)) rfl
theorem gw_2023 : (Cond.code ⟨"RelayHall", "selectConfirms", "(LRelayHall$Channel;)V"⟩ prog_1_method_109_code 3 none) ∈ lw_G := x_gw (inT_8 _ (List.mem_of_getElem? (i := 103) rfl)) rfl
theorem gw_2025 : (Cond.methodLink "RelayHall" 551 ⟨"RelayHall", "selectTransactions", "(LRelayHall$Channel;)V"⟩) ∈ lw_G := x_gw (inT_8 _ (List.mem_of_getElem? (i := 105) rfl)) rfl
theorem gw_2027 : (Cond.instanceMethod ⟨"RelayHall", "selectTransactions", "(LRelayHall$Channel;)V"⟩) ∈ lw_G := x_gw (inT_8 _ (List.mem_of_getElem? (i := 107) rfl)) rfl
theorem gw_2028 : (Cond.code ⟨"RelayHall", "selectTransactions", "(LRelayHall$Channel;)V"⟩ prog_1_method_106_code 2 none) ∈ lw_G := x_gw (inT_8 _ (List.mem_of_getElem? (i := 108) rfl)) rfl
theorem gw_2030 : (Cond.methodLink "RelayHall" 554 ⟨"RelayHall", "commit", "(LRelayHall$Channel;)V"⟩) ∈ lw_G := x_gw (inT_8 _ (List.mem_of_getElem? (i := 110) rfl)) rfl
theorem gw_2032 : (Cond.instanceMethod ⟨"RelayHall", "commit", "(LRelayHall$Channel;)V"⟩) ∈ lw_G := x_gw (inT_8 _ (List.mem_of_getElem? (i := 112) rfl)) rfl
theorem gw_2033 : (Cond.code ⟨"RelayHall", "commit", "(LRelayHall$Channel;)V"⟩ prog_1_method_107_code 3 none) ∈ lw_G := x_gw (inT_8 _ (List.mem_of_getElem? (i := 113) rfl)) rfl
theorem gw_2038 : (Cond.methodLink "RelayHall" 767 ⟨"RelayHall", "spread", "(LRelayHall$Message;)Z"⟩) ∈ lw_G := x_gw (inT_8 _ (List.mem_of_getElem? (i := 118) rfl)) rfl
theorem gw_2040 : (Cond.instanceMethod ⟨"RelayHall", "spread", "(LRelayHall$Message;)Z"⟩) ∈ lw_G := x_gw (inT_8 _ (List.mem_of_getElem? (i := 120) rfl)) rfl
theorem gw_2041 : (Cond.code ⟨"RelayHall", "spread", "(LRelayHall$Message;)Z"⟩ prog_1_method_85_code 5 (some .boolean)) ∈ lw_G := x_gw (inT_8 _ (List.mem_of_getElem? (i := 121) rfl)) rfl
theorem gw_2046 : (Cond.methodLink "RelayHall" 375 ⟨"java/util/ArrayList", "clear", "()V"⟩) ∈ lw_G := x_gw (inT_8 _ (List.mem_of_getElem? (i := 126) rfl)) rfl
theorem gw_2091 : (Cond.methodLink "RelayHall" 557 ⟨"RelayHall", "rollBack", "(LRelayHall$Channel;)V"⟩) ∈ lw_G := x_gw (inT_8 _ (List.mem_of_getElem? (i := 171) rfl)) rfl
theorem gw_2093 : (Cond.instanceMethod ⟨"RelayHall", "rollBack", "(LRelayHall$Channel;)V"⟩) ∈ lw_G := x_gw (inT_8 _ (List.mem_of_getElem? (i := 173) rfl)) rfl
theorem gw_2094 : (Cond.code ⟨"RelayHall", "rollBack", "(LRelayHall$Channel;)V"⟩ prog_1_method_108_code 2 none) ∈ lw_G := x_gw (inT_8 _ (List.mem_of_getElem? (i := 174) rfl)) rfl
theorem gw_2100 : (Cond.methodLink "RelayHall" 139 ⟨"RelayHall", "takeHeader", "(LRelayHall$Channel;)V"⟩) ∈ lw_G := x_gw (inT_8 _ (List.mem_of_getElem? (i := 180) rfl)) rfl
theorem gw_2102 : (Cond.instanceMethod ⟨"RelayHall", "takeHeader", "(LRelayHall$Channel;)V"⟩) ∈ lw_G := x_gw (inT_8 _ (List.mem_of_getElem? (i := 182) rfl)) rfl
theorem gw_2103 : (Cond.code ⟨"RelayHall", "takeHeader", "(LRelayHall$Channel;)V"⟩ prog_1_method_78_code 7 none) ∈ lw_G := x_gw (inT_8 _ (List.mem_of_getElem? (i := 183) rfl)) rfl
theorem gw_2138 : (Cond.methodLink "RelayHall" 142 ⟨"RelayHall", "takeBody", "(LRelayHall$Channel;)V"⟩) ∈ lw_G := x_gw (inT_8 _ (List.mem_of_getElem? (i := 218) rfl)) rfl
theorem gw_2140 : (Cond.instanceMethod ⟨"RelayHall", "takeBody", "(LRelayHall$Channel;)V"⟩) ∈ lw_G := x_gw (inT_8 _ (List.mem_of_getElem? (i := 220) rfl)) rfl
theorem gw_2141 : (Cond.code ⟨"RelayHall", "takeBody", "(LRelayHall$Channel;)V"⟩ prog_1_method_79_code 4 none) ∈ lw_G := x_gw (inT_8 _ (List.mem_of_getElem? (i := 221) rfl)) rfl
theorem gw_2147 : (Cond.methodLink "RelayHall" 148 ⟨"RelayHall", "dispatch", "()V"⟩) ∈ lw_G := x_gw (inT_8 _ (List.mem_of_getElem? (i := 227) rfl)) rfl
theorem gw_2149 : (Cond.instanceMethod ⟨"RelayHall", "dispatch", "()V"⟩) ∈ lw_G := x_gw (inT_8 _ (List.mem_of_getElem? (i := 229) rfl)) rfl
theorem gw_2150 : (Cond.code ⟨"RelayHall", "dispatch", "()V"⟩ prog_1_method_96_code 2 none) ∈ lw_G := x_gw (inT_8 _ (List.mem_of_getElem? (i := 230) rfl)) rfl
theorem gw_2151 : (Cond.constant "RelayHall" 892 (1000000)) ∈ lw_G := x_gw (inT_8 _ (List.mem_of_getElem? (i := 231) rfl)) rfl
theorem gw_2152 : (Cond.methodLink "RelayHall" 183 ⟨"RelayHall", "letLeave", "()V"⟩) ∈ lw_G := x_gw (inT_8 _ (List.mem_of_getElem? (i := 232) rfl)) rfl
theorem gw_2154 : (Cond.instanceMethod ⟨"RelayHall", "letLeave", "()V"⟩) ∈ lw_G := x_gw (inT_8 _ (List.mem_of_getElem? (i := 234) rfl)) rfl
theorem gw_2155 : (Cond.code ⟨"RelayHall", "letLeave", "()V"⟩ prog_1_method_38_code 3 none) ∈ lw_G := x_gw (inT_8 _ (List.mem_of_getElem? (i := 235) rfl)) rfl
theorem gw_2156 : (Cond.methodLink "RelayHall" 369 ⟨"RelayHall", "gone", "(LRelayHall$Channel;)V"⟩) ∈ lw_G := x_gw (inT_8 _ (List.mem_of_getElem? (i := 236) rfl)) rfl
theorem gw_2158 : (Cond.instanceMethod ⟨"RelayHall", "gone", "(LRelayHall$Channel;)V"⟩) ∈ lw_G := x_gw (inT_8 _ (List.mem_of_getElem? (i := 238) rfl)) rfl
theorem gw_2159 : (Cond.code ⟨"RelayHall", "gone", "(LRelayHall$Channel;)V"⟩ prog_1_method_40_code 4 none) ∈ lw_G := x_gw (inT_8 _ (List.mem_of_getElem? (i := 239) rfl)) rfl
theorem gw_2160 : (Cond.methodLink "RelayHall" 392 ⟨"RelayHall$Channel", "forget", "()V"⟩) ∈ lw_G := x_gw (inT_9 _ (List.mem_of_getElem? (i := 0) rfl)) rfl
theorem gw_2161 : (Cond.methodLink "RelayHall" 372 ⟨"RelayHall", "letLeaveWhole", "(LRelayHall$Connection;)V"⟩) ∈ lw_G := x_gw (inT_9 _ (List.mem_of_getElem? (i := 1) rfl)) rfl
theorem gw_2163 : (Cond.instanceMethod ⟨"RelayHall", "letLeaveWhole", "(LRelayHall$Connection;)V"⟩) ∈ lw_G := x_gw (inT_9 _ (List.mem_of_getElem? (i := 3) rfl)) rfl
theorem gw_2164 : (Cond.code ⟨"RelayHall", "letLeaveWhole", "(LRelayHall$Connection;)V"⟩ prog_1_method_39_code 5 none) ∈ lw_G := x_gw (inT_9 _ (List.mem_of_getElem? (i := 4) rfl)) rfl
theorem gw_2165 : (Cond.methodLink "RelayHall" 893 ⟨"RelayHall", "dispatchOne", "()Z"⟩) ∈ lw_G := x_gw (inT_9 _ (List.mem_of_getElem? (i := 5) rfl)) rfl
theorem gw_2167 : (Cond.instanceMethod ⟨"RelayHall", "dispatchOne", "()Z"⟩) ∈ lw_G := x_gw (inT_9 _ (List.mem_of_getElem? (i := 7) rfl)) rfl
theorem gw_2168 : (Cond.code ⟨"RelayHall", "dispatchOne", "()Z"⟩ prog_1_method_97_code 4 (some .boolean)) ∈ lw_G := x_gw (inT_9 _ (List.mem_of_getElem? (i := 8) rfl)) rfl
theorem gw_2169 : (Cond.methodLink "RelayHall" 896 ⟨"RelayHall$Message", "buried", "()LRelayHall$Message;"⟩) ∈ lw_G := x_gw (inT_9 _ (List.mem_of_getElem? (i := 9) rfl)) rfl
theorem gw_2170 : (Cond.instanceMethod ⟨"RelayHall$Message", "buried", "()LRelayHall$Message;"⟩) ∈ lw_G := x_gw (inT_9 _ (List.mem_of_getElem? (i := 10) rfl)) rfl
theorem gw_2171 : (Cond.selects "RelayHall$Message" ⟨"RelayHall$Message", "buried", "()LRelayHall$Message;"⟩ ⟨"RelayHall$Message", "buried", "()LRelayHall$Message;"⟩) ∈ lw_G := x_gw (inT_9 _ (List.mem_of_getElem? (i := 11) rfl)) rfl
theorem gw_2172 : (Cond.code ⟨"RelayHall$Message", "buried", "()LRelayHall$Message;"⟩ prog_9_method_4_code 2 (some (.object "RelayHall$Message"))) ∈ lw_G := x_gw (inT_9 _ (List.mem_of_getElem? (i := 12) rfl)) rfl
theorem gw_2173 : (Cond.methodLink "RelayHall" 900 ⟨"RelayHall", "nextConsumer", "(LRelayHall$Queue;)LRelayHall$Consumer;"⟩) ∈ lw_G := x_gw (inT_9 _ (List.mem_of_getElem? (i := 13) rfl)) rfl
theorem gw_2175 : (Cond.instanceMethod ⟨"RelayHall", "nextConsumer", "(LRelayHall$Queue;)LRelayHall$Consumer;"⟩) ∈ lw_G := x_gw (inT_9 _ (List.mem_of_getElem? (i := 15) rfl)) rfl
theorem gw_2176 : (Cond.code ⟨"RelayHall", "nextConsumer", "(LRelayHall$Queue;)LRelayHall$Consumer;"⟩ prog_1_method_98_code 6 (some (.object "RelayHall$Consumer"))) ∈ lw_G := x_gw (inT_9 _ (List.mem_of_getElem? (i := 16) rfl)) rfl
theorem gw_2181 : (Cond.methodLink "RelayHall" 904 ⟨"RelayHall", "deliver", "(LRelayHall$Queue;LRelayHall$Consumer;)V"⟩) ∈ lw_G := x_gw (inT_9 _ (List.mem_of_getElem? (i := 21) rfl)) rfl
theorem gw_2183 : (Cond.instanceMethod ⟨"RelayHall", "deliver", "(LRelayHall$Queue;LRelayHall$Consumer;)V"⟩) ∈ lw_G := x_gw (inT_9 _ (List.mem_of_getElem? (i := 23) rfl)) rfl
theorem gw_2184 : (Cond.code ⟨"RelayHall", "deliver", "(LRelayHall$Queue;LRelayHall$Consumer;)V"⟩ prog_1_method_99_code 6 none) ∈ lw_G := x_gw (inT_9 _ (List.mem_of_getElem? (i := 24) rfl)) rfl
theorem gw_2186 : (Cond.methodLink "RelayHallLaw" 46 ⟨"RelayHall", "cut", "(I)Z"⟩) ∈ lw_G := x_gw (inT_9 _ (List.mem_of_getElem? (i := 26) rfl)) rfl
theorem gw_2187 : (Cond.instanceMethod ⟨"RelayHall", "cut", "(I)Z"⟩) ∈ lw_G := x_gw (inT_9 _ (List.mem_of_getElem? (i := 27) rfl)) rfl
theorem gw_2188 : (Cond.selects "RelayHall" ⟨"RelayHall", "cut", "(I)Z"⟩ ⟨"RelayHall", "cut", "(I)Z"⟩) ∈ lw_G := x_gw (inT_9 _ (List.mem_of_getElem? (i := 28) rfl)) rfl
theorem gw_2189 : (Cond.code ⟨"RelayHall", "cut", "(I)Z"⟩ prog_1_method_5_code 2 (some .boolean)) ∈ lw_G := x_gw (inT_9 _ (List.mem_of_getElem? (i := 29) rfl)) rfl
theorem gw_2190 : (Cond.methodLink "RelayHallLaw" 50 ⟨"RelayHall", "waiting", "(I)I"⟩) ∈ lw_G := x_gw (inT_9 _ (List.mem_of_getElem? (i := 30) rfl)) rfl
theorem gw_2191 : (Cond.instanceMethod ⟨"RelayHall", "waiting", "(I)I"⟩) ∈ lw_G := x_gw (inT_9 _ (List.mem_of_getElem? (i := 31) rfl)) rfl
theorem gw_2192 : (Cond.selects "RelayHall" ⟨"RelayHall", "waiting", "(I)I"⟩ ⟨"RelayHall", "waiting", "(I)I"⟩) ∈ lw_G := x_gw (inT_9 _ (List.mem_of_getElem? (i := 32) rfl)) rfl
theorem gw_2193 : (Cond.code ⟨"RelayHall", "waiting", "(I)I"⟩ prog_1_method_6_code 2 (some .int)) ∈ lw_G := x_gw (inT_9 _ (List.mem_of_getElem? (i := 33) rfl)) rfl
theorem gw_2194 : (Cond.methodLink "RelayHallLaw" 67 ⟨"RelayHall", "connection", "(II)I"⟩) ∈ lw_G := x_gw (inT_9 _ (List.mem_of_getElem? (i := 34) rfl)) rfl
theorem gw_2195 : (Cond.instanceMethod ⟨"RelayHall", "connection", "(II)I"⟩) ∈ lw_G := x_gw (inT_9 _ (List.mem_of_getElem? (i := 35) rfl)) rfl
theorem gw_2196 : (Cond.selects "RelayHall" ⟨"RelayHall", "connection", "(II)I"⟩ ⟨"RelayHall", "connection", "(II)I"⟩) ∈ lw_G := x_gw (inT_9 _ (List.mem_of_getElem? (i := 36) rfl)) rfl
theorem gw_2197 : (Cond.code ⟨"RelayHall", "connection", "(II)I"⟩ prog_1_method_10_code 4 (some .int)) ∈ lw_G := x_gw (inT_9 _ (List.mem_of_getElem? (i := 37) rfl)) rfl
theorem gw_2202 : (Cond.methodLink "RelayHallLaw" 72 ⟨"RelayHall", "channel", "(III)I"⟩) ∈ lw_G := x_gw (inT_9 _ (List.mem_of_getElem? (i := 42) rfl)) rfl
theorem gw_2203 : (Cond.instanceMethod ⟨"RelayHall", "channel", "(III)I"⟩) ∈ lw_G := x_gw (inT_9 _ (List.mem_of_getElem? (i := 43) rfl)) rfl
theorem gw_2204 : (Cond.selects "RelayHall" ⟨"RelayHall", "channel", "(III)I"⟩ ⟨"RelayHall", "channel", "(III)I"⟩) ∈ lw_G := x_gw (inT_9 _ (List.mem_of_getElem? (i := 44) rfl)) rfl
theorem gw_2205 : (Cond.code ⟨"RelayHall", "channel", "(III)I"⟩ prog_1_method_11_code 5 (some .int)) ∈ lw_G := x_gw (inT_9 _ (List.mem_of_getElem? (i := 45) rfl)) rfl
theorem gw_2210 : (Cond.methodLink "RelayHallLaw" 77 ⟨"RelayHall", "queue", "(II)I"⟩) ∈ lw_G := x_gw (inT_9 _ (List.mem_of_getElem? (i := 50) rfl)) rfl
theorem gw_2211 : (Cond.instanceMethod ⟨"RelayHall", "queue", "(II)I"⟩) ∈ lw_G := x_gw (inT_9 _ (List.mem_of_getElem? (i := 51) rfl)) rfl
theorem gw_2212 : (Cond.selects "RelayHall" ⟨"RelayHall", "queue", "(II)I"⟩ ⟨"RelayHall", "queue", "(II)I"⟩) ∈ lw_G := x_gw (inT_9 _ (List.mem_of_getElem? (i := 52) rfl)) rfl
theorem gw_2213 : (Cond.code ⟨"RelayHall", "queue", "(II)I"⟩ prog_1_method_12_code 4 (some .int)) ∈ lw_G := x_gw (inT_9 _ (List.mem_of_getElem? (i := 53) rfl)) rfl
theorem gw_2222 : (Cond.methodLink "RelayHallLaw" 81 ⟨"RelayHall", "exchange", "(II)I"⟩) ∈ lw_G := x_gw (inT_9 _ (List.mem_of_getElem? (i := 62) rfl)) rfl
theorem gw_2223 : (Cond.instanceMethod ⟨"RelayHall", "exchange", "(II)I"⟩) ∈ lw_G := x_gw (inT_9 _ (List.mem_of_getElem? (i := 63) rfl)) rfl
theorem gw_2224 : (Cond.selects "RelayHall" ⟨"RelayHall", "exchange", "(II)I"⟩ ⟨"RelayHall", "exchange", "(II)I"⟩) ∈ lw_G := x_gw (inT_9 _ (List.mem_of_getElem? (i := 64) rfl)) rfl
theorem gw_2225 : (Cond.code ⟨"RelayHall", "exchange", "(II)I"⟩ prog_1_method_13_code 4 (some .int)) ∈ lw_G := x_gw (inT_9 _ (List.mem_of_getElem? (i := 65) rfl)) rfl
theorem gw_2226 : (Cond.methodLink "RelayHallLaw" 85 ⟨"RelayHall", "total", "(I)I"⟩) ∈ lw_G := x_gw (inT_9 _ (List.mem_of_getElem? (i := 66) rfl)) rfl
theorem gw_2227 : (Cond.instanceMethod ⟨"RelayHall", "total", "(I)I"⟩) ∈ lw_G := x_gw (inT_9 _ (List.mem_of_getElem? (i := 67) rfl)) rfl
theorem gw_2228 : (Cond.selects "RelayHall" ⟨"RelayHall", "total", "(I)I"⟩ ⟨"RelayHall", "total", "(I)I"⟩) ∈ lw_G := x_gw (inT_9 _ (List.mem_of_getElem? (i := 68) rfl)) rfl
theorem gw_2229 : (Cond.code ⟨"RelayHall", "total", "(I)I"⟩ prog_1_method_14_code 2 (some .int)) ∈ lw_G := x_gw (inT_9 _ (List.mem_of_getElem? (i := 69) rfl)) rfl
theorem gw_2235 : (Cond.methodLink "RelayHallLaw" 7 ⟨"RelayHall", "read", "(II)J"⟩) ∈ lw_G := x_gw (inT_9 _ (List.mem_of_getElem? (i := 75) rfl)) rfl
theorem gw_2236 : (Cond.instanceMethod ⟨"RelayHall", "read", "(II)J"⟩) ∈ lw_G := x_gw (inT_9 _ (List.mem_of_getElem? (i := 76) rfl)) rfl
theorem gw_2237 : (Cond.selects "RelayHall" ⟨"RelayHall", "read", "(II)J"⟩ ⟨"RelayHall", "read", "(II)J"⟩) ∈ lw_G := x_gw (inT_9 _ (List.mem_of_getElem? (i := 77) rfl)) rfl
theorem gw_2238 : (Cond.code ⟨"RelayHall", "read", "(II)J"⟩ prog_1_method_7_code 6 (some .long)) ∈ lw_G := x_gw (inT_9 _ (List.mem_of_getElem? (i := 78) rfl)) rfl
theorem gw_2273 : (Cond.methodLink "RelayHallLaw" 17 ⟨"RelayHall", "tick", "(I)I"⟩) ∈ lw_G := x_gw (inT_9 _ (List.mem_of_getElem? (i := 113) rfl)) rfl
theorem gw_2274 : (Cond.instanceMethod ⟨"RelayHall", "tick", "(I)I"⟩) ∈ lw_G := x_gw (inT_9 _ (List.mem_of_getElem? (i := 114) rfl)) rfl
theorem gw_2275 : (Cond.selects "RelayHall" ⟨"RelayHall", "tick", "(I)I"⟩ ⟨"RelayHall", "tick", "(I)I"⟩) ∈ lw_G := x_gw (inT_9 _ (List.mem_of_getElem? (i := 115) rfl)) rfl
theorem gw_2276 : (Cond.code ⟨"RelayHall", "tick", "(I)I"⟩ prog_1_method_8_code 4 (some .int)) ∈ lw_G := x_gw (inT_9 _ (List.mem_of_getElem? (i := 116) rfl)) rfl
theorem gw_2332 : (Cond.methodLink "RelayHallLaw" 23 ⟨"RelayHall", "crash", "(I)I"⟩) ∈ lw_G := x_gw (inT_9 _ (List.mem_of_getElem? (i := 172) rfl)) rfl
theorem gw_2333 : (Cond.instanceMethod ⟨"RelayHall", "crash", "(I)I"⟩) ∈ lw_G := x_gw (inT_9 _ (List.mem_of_getElem? (i := 173) rfl)) rfl
theorem gw_2334 : (Cond.selects "RelayHall" ⟨"RelayHall", "crash", "(I)I"⟩ ⟨"RelayHall", "crash", "(I)I"⟩) ∈ lw_G := x_gw (inT_9 _ (List.mem_of_getElem? (i := 174) rfl)) rfl
theorem gw_2335 : (Cond.code ⟨"RelayHall", "crash", "(I)I"⟩ prog_1_method_9_code 3 (some .int)) ∈ lw_G := x_gw (inT_9 _ (List.mem_of_getElem? (i := 175) rfl)) rfl
theorem gw_2355 : (Cond.classLink "RelayHallLaw" 27 "RelayHallModel") ∈ lw_G := x_gw (inT_9 _ (List.mem_of_getElem? (i := 195) rfl)) rfl
theorem gw_2356 : (Cond.instantiable "RelayHallModel" 46) ∈ lw_G := x_gw (inT_9 _ (List.mem_of_getElem? (i := 196) rfl)) rfl
theorem gw_2357 : (Cond.methodLink "RelayHallLaw" 29 ⟨"RelayHallModel", "<init>", "()V"⟩) ∈ lw_G := x_gw (inT_9 _ (List.mem_of_getElem? (i := 197) rfl)) rfl
theorem gw_2358 : (Cond.instanceMethod ⟨"RelayHallModel", "<init>", "()V"⟩) ∈ lw_G := x_gw (inT_9 _ (List.mem_of_getElem? (i := 198) rfl)) rfl
theorem gw_2359 : (Cond.code ⟨"RelayHallModel", "<init>", "()V"⟩ prog_14_method_1_code 5 none) ∈ lw_G := x_gw (inT_9 _ (List.mem_of_getElem? (i := 199) rfl)) rfl
theorem gw_2360 : (Cond.methodLink "RelayHallModel" 1 ⟨"java/lang/Object", "<init>", "()V"⟩) ∈ lw_G := x_gw (inT_9 _ (List.mem_of_getElem? (i := 200) rfl)) rfl
theorem gw_2361 : (Cond.classLink "RelayHallModel" 7 "RelayHallModel$Connection") ∈ lw_G := x_gw (inT_9 _ (List.mem_of_getElem? (i := 201) rfl)) rfl
theorem gw_2363 : (Cond.classLink "RelayHallModel" 15 "RelayHallModel$Exchange") ∈ lw_G := x_gw (inT_9 _ (List.mem_of_getElem? (i := 203) rfl)) rfl
theorem gw_2365 : (Cond.classLink "RelayHallModel" 21 "RelayHallModel$Queue") ∈ lw_G := x_gw (inT_9 _ (List.mem_of_getElem? (i := 205) rfl)) rfl
theorem gw_2367 : (Cond.classLink "RelayHallModel" 27 "RelayHallModel$Binding") ∈ lw_G := x_gw (inT_9 _ (List.mem_of_getElem? (i := 207) rfl)) rfl
theorem gw_2369 : (Cond.classLink "RelayHallModel" 33 "RelayHallModel$Consumer") ∈ lw_G := x_gw (inT_9 _ (List.mem_of_getElem? (i := 209) rfl)) rfl
theorem gw_2371 : (Cond.classLink "RelayHallModel" 39 "RelayHallModel$Dead") ∈ lw_G := x_gw (inT_9 _ (List.mem_of_getElem? (i := 211) rfl)) rfl
theorem gw_2373 : (Cond.classLink "RelayHallModel" 45 "RelayHallModel$Fact") ∈ lw_G := x_gw (inT_9 _ (List.mem_of_getElem? (i := 213) rfl)) rfl
theorem gw_2375 : (Cond.classLink "RelayHallModel" 60 "RelayHallModel$Entry") ∈ lw_G := x_gw (inT_9 _ (List.mem_of_getElem? (i := 215) rfl)) rfl
theorem gw_2377 : (Cond.instantiable "RelayHallModel$Connection" 13) ∈ lw_G := x_gw (inT_9 _ (List.mem_of_getElem? (i := 217) rfl)) rfl
theorem gw_2379 : (Cond.instanceMethod ⟨"RelayHallModel$Connection", "<init>", "()V"⟩) ∈ lw_G := x_gw (inT_9 _ (List.mem_of_getElem? (i := 219) rfl)) rfl
theorem gw_2380 : (Cond.code ⟨"RelayHallModel$Connection", "<init>", "()V"⟩ prog_17_method_1_code 1 none) ∈ lw_G := x_gw (inT_9 _ (List.mem_of_getElem? (i := 220) rfl)) rfl
theorem gw_2381 : (Cond.methodLink "RelayHallModel$Connection" 1 ⟨"java/lang/Object", "<init>", "()V"⟩) ∈ lw_G := x_gw (inT_9 _ (List.mem_of_getElem? (i := 221) rfl)) rfl
theorem gw_2382 : (Cond.classLink "RelayHallModel$Connection" 16 "RelayHallModel$Channel") ∈ lw_G := x_gw (inT_9 _ (List.mem_of_getElem? (i := 222) rfl)) rfl
theorem gw_2384 : (Cond.fieldLink "RelayHallModel" 100 "RelayHallModel$Connection" "number" "I") ∈ lw_G := x_gw (inT_9 _ (List.mem_of_getElem? (i := 224) rfl)) rfl
theorem gw_2385 : (Cond.fieldLink "RelayHallModel" 228 "RelayHallModel$Connection" "state" "I") ∈ lw_G := x_gw (inT_9 _ (List.mem_of_getElem? (i := 225) rfl)) rfl
theorem gw_2386 : (Cond.fieldLink "RelayHallModel" 956 "RelayHallModel$Connection" "heartbeat" "I") ∈ lw_G := x_gw (inT_9 _ (List.mem_of_getElem? (i := 226) rfl)) rfl
theorem gw_2387 : (Cond.fieldLink "RelayHallModel" 316 "RelayHallModel$Connection" "inLong" "I") ∈ lw_G := x_gw (inT_9 _ (List.mem_of_getElem? (i := 227) rfl)) rfl
theorem gw_2388 : (Cond.fieldLink "RelayHallModel" 241 "RelayHallModel$Connection" "outFrom" "I") ∈ lw_G := x_gw (inT_9 _ (List.mem_of_getElem? (i := 228) rfl)) rfl
theorem gw_2389 : (Cond.fieldLink "RelayHallModel" 231 "RelayHallModel$Connection" "outLong" "I") ∈ lw_G := x_gw (inT_9 _ (List.mem_of_getElem? (i := 229) rfl)) rfl
theorem gw_2390 : (Cond.fieldLink "RelayHallModel" 1006 "RelayHallModel$Connection" "lastIn" "I") ∈ lw_G := x_gw (inT_9 _ (List.mem_of_getElem? (i := 230) rfl)) rfl
theorem gw_2391 : (Cond.fieldLink "RelayHallModel" 247 "RelayHallModel$Connection" "lastOut" "I") ∈ lw_G := x_gw (inT_9 _ (List.mem_of_getElem? (i := 231) rfl)) rfl
theorem gw_2393 : (Cond.fieldLink "RelayHallModel" 319 "RelayHallModel$Connection" "deaf" "Z") ∈ lw_G := x_gw (inT_9 _ (List.mem_of_getElem? (i := 233) rfl)) rfl
theorem gw_2394 : (Cond.fieldLink "RelayHallModel$Connection" 7 "RelayHallModel$Connection" "in" "[B") ∈ lw_G := x_gw (inT_9 _ (List.mem_of_getElem? (i := 234) rfl)) rfl
theorem gw_2395 : (Cond.fieldLink "RelayHallModel" 962 "RelayHallModel$Connection" "in" "[B") ∈ lw_G := x_gw (inT_9 _ (List.mem_of_getElem? (i := 235) rfl)) rfl
theorem gw_2396 : (Cond.fieldLink "RelayHallModel$Connection" 13 "RelayHallModel$Connection" "out" "[B") ∈ lw_G := x_gw (inT_9 _ (List.mem_of_getElem? (i := 236) rfl)) rfl
theorem gw_2397 : (Cond.fieldLink "RelayHallModel" 238 "RelayHallModel$Connection" "out" "[B") ∈ lw_G := x_gw (inT_9 _ (List.mem_of_getElem? (i := 237) rfl)) rfl
theorem gw_2398 : (Cond.fieldLink "RelayHallModel$Connection" 18 "RelayHallModel$Connection" "channels" "[LRelayHallModel$Channel;") ∈ lw_G := x_gw (inT_9 _ (List.mem_of_getElem? (i := 238) rfl)) rfl
theorem gw_2399 : (Cond.fieldLink "RelayHallModel" 112 "RelayHallModel$Connection" "channels" "[LRelayHallModel$Channel;") ∈ lw_G := x_gw (inT_9 _ (List.mem_of_getElem? (i := 239) rfl)) rfl
theorem gw_2427 : (Cond.arrayClass .boolean) ∈ lw_G := x_gw (inT_10 _ (List.mem_of_getElem? (i := 27) rfl)) rfl
theorem gw_2428 : (Cond.classLink "RelayHallModel" 104 "RelayHallModel$Channel") ∈ lw_G := x_gw (inT_10 _ (List.mem_of_getElem? (i := 28) rfl)) rfl
theorem gw_2429 : (Cond.instantiable "RelayHallModel$Channel" 19) ∈ lw_G := x_gw (inT_10 _ (List.mem_of_getElem? (i := 29) rfl)) rfl
theorem gw_2431 : (Cond.instanceMethod ⟨"RelayHallModel$Channel", "<init>", "()V"⟩) ∈ lw_G := x_gw (inT_10 _ (List.mem_of_getElem? (i := 31) rfl)) rfl
theorem gw_2432 : (Cond.code ⟨"RelayHallModel$Channel", "<init>", "()V"⟩ prog_16_method_1_code 1 none) ∈ lw_G := x_gw (inT_10 _ (List.mem_of_getElem? (i := 32) rfl)) rfl
theorem gw_2433 : (Cond.methodLink "RelayHallModel$Channel" 1 ⟨"java/lang/Object", "<init>", "()V"⟩) ∈ lw_G := x_gw (inT_10 _ (List.mem_of_getElem? (i := 33) rfl)) rfl
theorem gw_2434 : (Cond.classLink "RelayHallModel$Channel" 7 "RelayHallModel$Sent") ∈ lw_G := x_gw (inT_10 _ (List.mem_of_getElem? (i := 34) rfl)) rfl
theorem gw_2436 : (Cond.classLink "RelayHallModel$Channel" 15 "RelayHallModel$Kept") ∈ lw_G := x_gw (inT_10 _ (List.mem_of_getElem? (i := 36) rfl)) rfl
theorem gw_2438 : (Cond.fieldLink "RelayHallModel" 107 "RelayHallModel$Channel" "connection" "LRelayHallModel$Connection;") ∈ lw_G := x_gw (inT_10 _ (List.mem_of_getElem? (i := 38) rfl)) rfl
theorem gw_2439 : (Cond.fieldLink "RelayHallModel" 111 "RelayHallModel$Channel" "number" "I") ∈ lw_G := x_gw (inT_10 _ (List.mem_of_getElem? (i := 39) rfl)) rfl
theorem gw_2440 : (Cond.fieldLink "RelayHallModel" 278 "RelayHallModel$Channel" "state" "I") ∈ lw_G := x_gw (inT_10 _ (List.mem_of_getElem? (i := 40) rfl)) rfl
theorem gw_2441 : (Cond.fieldLink "RelayHallModel" 367 "RelayHallModel$Channel" "mode" "I") ∈ lw_G := x_gw (inT_10 _ (List.mem_of_getElem? (i := 41) rfl)) rfl
theorem gw_2442 : (Cond.fieldLink "RelayHallModel" 677 "RelayHallModel$Channel" "limit" "I") ∈ lw_G := x_gw (inT_10 _ (List.mem_of_getElem? (i := 42) rfl)) rfl
theorem gw_2443 : (Cond.fieldLink "RelayHallModel" 705 "RelayHallModel$Channel" "comingLimit" "I") ∈ lw_G := x_gw (inT_10 _ (List.mem_of_getElem? (i := 43) rfl)) rfl
theorem gw_2444 : (Cond.fieldLink "RelayHallModel" 373 "RelayHallModel$Channel" "tag" "I") ∈ lw_G := x_gw (inT_10 _ (List.mem_of_getElem? (i := 44) rfl)) rfl
theorem gw_2445 : (Cond.fieldLink "RelayHallModel" 370 "RelayHallModel$Channel" "confirm" "I") ∈ lw_G := x_gw (inT_10 _ (List.mem_of_getElem? (i := 45) rfl)) rfl
theorem gw_2446 : (Cond.fieldLink "RelayHallModel" 708 "RelayHallModel$Channel" "tags" "I") ∈ lw_G := x_gw (inT_10 _ (List.mem_of_getElem? (i := 46) rfl)) rfl
theorem gw_2450 : (Cond.fieldLink "RelayHallModel" 360 "RelayHallModel$Channel" "due" "I") ∈ lw_G := x_gw (inT_10 _ (List.mem_of_getElem? (i := 50) rfl)) rfl
theorem gw_2451 : (Cond.fieldLink "RelayHallModel" 664 "RelayHallModel$Channel" "active" "Z") ∈ lw_G := x_gw (inT_10 _ (List.mem_of_getElem? (i := 51) rfl)) rfl
theorem gw_2452 : (Cond.fieldLink "RelayHallModel" 711 "RelayHallModel$Channel" "lastQueue" "[B") ∈ lw_G := x_gw (inT_10 _ (List.mem_of_getElem? (i := 52) rfl)) rfl
theorem gw_2454 : (Cond.fieldLink "RelayHallModel$Channel" 9 "RelayHallModel$Channel" "sent" "[LRelayHallModel$Sent;") ∈ lw_G := x_gw (inT_10 _ (List.mem_of_getElem? (i := 54) rfl)) rfl
theorem gw_2456 : (Cond.fieldLink "RelayHallModel$Channel" 17 "RelayHallModel$Channel" "kept" "[LRelayHallModel$Kept;") ∈ lw_G := x_gw (inT_10 _ (List.mem_of_getElem? (i := 56) rfl)) rfl
theorem gw_2458 : (Cond.fieldLink "RelayHallModel$Channel" 21 "RelayHallModel$Channel" "confirms" "[I") ∈ lw_G := x_gw (inT_10 _ (List.mem_of_getElem? (i := 58) rfl)) rfl
theorem gw_2499 : (Cond.fieldLink "RelayHallModel" 9 "RelayHallModel" "connections" "[LRelayHallModel$Connection;") ∈ lw_G := x_gw (inT_10 _ (List.mem_of_getElem? (i := 99) rfl)) rfl
theorem gw_2500 : (Cond.fieldLink "RelayHallModel" 17 "RelayHallModel" "exchanges" "[LRelayHallModel$Exchange;") ∈ lw_G := x_gw (inT_10 _ (List.mem_of_getElem? (i := 100) rfl)) rfl
theorem gw_2501 : (Cond.fieldLink "RelayHallModel" 23 "RelayHallModel" "queues" "[LRelayHallModel$Queue;") ∈ lw_G := x_gw (inT_10 _ (List.mem_of_getElem? (i := 101) rfl)) rfl
theorem gw_2502 : (Cond.fieldLink "RelayHallModel" 29 "RelayHallModel" "bindings" "[LRelayHallModel$Binding;") ∈ lw_G := x_gw (inT_10 _ (List.mem_of_getElem? (i := 102) rfl)) rfl
theorem gw_2503 : (Cond.fieldLink "RelayHallModel" 35 "RelayHallModel" "consumers" "[LRelayHallModel$Consumer;") ∈ lw_G := x_gw (inT_10 _ (List.mem_of_getElem? (i := 103) rfl)) rfl
theorem gw_2505 : (Cond.fieldLink "RelayHallModel" 303 "RelayHallModel" "queueMany" "I") ∈ lw_G := x_gw (inT_10 _ (List.mem_of_getElem? (i := 105) rfl)) rfl
theorem gw_2511 : (Cond.fieldLink "RelayHallModel" 244 "RelayHallModel" "clock" "I") ∈ lw_G := x_gw (inT_10 _ (List.mem_of_getElem? (i := 111) rfl)) rfl
theorem gw_2513 : (Cond.fieldLink "RelayHallModel" 41 "RelayHallModel" "dead" "[LRelayHallModel$Dead;") ∈ lw_G := x_gw (inT_10 _ (List.mem_of_getElem? (i := 113) rfl)) rfl
theorem gw_2514 : (Cond.fieldLink "RelayHallModel" 530 "RelayHallModel" "deadMany" "I") ∈ lw_G := x_gw (inT_10 _ (List.mem_of_getElem? (i := 114) rfl)) rfl
theorem gw_2515 : (Cond.fieldLink "RelayHallModel" 47 "RelayHallModel" "facts" "[LRelayHallModel$Fact;") ∈ lw_G := x_gw (inT_10 _ (List.mem_of_getElem? (i := 115) rfl)) rfl
theorem gw_2517 : (Cond.fieldLink "RelayHallModel" 51 "RelayHallModel" "safeExchanges" "[LRelayHallModel$Exchange;") ∈ lw_G := x_gw (inT_10 _ (List.mem_of_getElem? (i := 117) rfl)) rfl
theorem gw_2518 : (Cond.fieldLink "RelayHallModel" 54 "RelayHallModel" "safeQueues" "[LRelayHallModel$Queue;") ∈ lw_G := x_gw (inT_10 _ (List.mem_of_getElem? (i := 118) rfl)) rfl
theorem gw_2519 : (Cond.fieldLink "RelayHallModel" 57 "RelayHallModel" "safeBindings" "[LRelayHallModel$Binding;") ∈ lw_G := x_gw (inT_10 _ (List.mem_of_getElem? (i := 119) rfl)) rfl
theorem gw_2520 : (Cond.fieldLink "RelayHallModel" 62 "RelayHallModel" "safeEntries" "[LRelayHallModel$Entry;") ∈ lw_G := x_gw (inT_10 _ (List.mem_of_getElem? (i := 120) rfl)) rfl
theorem gw_2525 : (Cond.fieldLink "RelayHallModel" 66 "RelayHallModel" "tape" "[B") ∈ lw_G := x_gw (inT_10 _ (List.mem_of_getElem? (i := 125) rfl)) rfl
theorem gw_2526 : (Cond.fieldLink "RelayHallModel" 999 "RelayHallModel" "tapeLong" "I") ∈ lw_G := x_gw (inT_10 _ (List.mem_of_getElem? (i := 126) rfl)) rfl
theorem gw_2527 : (Cond.fieldLink "RelayHallModel" 116 "RelayHallModel" "thrown" "I") ∈ lw_G := x_gw (inT_10 _ (List.mem_of_getElem? (i := 127) rfl)) rfl
theorem gw_2528 : (Cond.fieldLink "RelayHallModel" 70 "RelayHallModel" "frame" "[B") ∈ lw_G := x_gw (inT_10 _ (List.mem_of_getElem? (i := 128) rfl)) rfl
theorem gw_2529 : (Cond.fieldLink "RelayHallModel" 122 "RelayHallModel" "frameLong" "I") ∈ lw_G := x_gw (inT_10 _ (List.mem_of_getElem? (i := 129) rfl)) rfl
theorem gw_2530 : (Cond.fieldLink "RelayHallModel" 119 "RelayHallModel" "at" "I") ∈ lw_G := x_gw (inT_10 _ (List.mem_of_getElem? (i := 130) rfl)) rfl
theorem gw_2531 : (Cond.fieldLink "RelayHallModel" 289 "RelayHallModel" "theClass" "I") ∈ lw_G := x_gw (inT_10 _ (List.mem_of_getElem? (i := 131) rfl)) rfl
theorem gw_2532 : (Cond.fieldLink "RelayHallModel" 292 "RelayHallModel" "theMethod" "I") ∈ lw_G := x_gw (inT_10 _ (List.mem_of_getElem? (i := 132) rfl)) rfl
theorem gw_2533 : (Cond.fieldLink "RelayHallModel" 125 "RelayHallModel" "bad" "Z") ∈ lw_G := x_gw (inT_10 _ (List.mem_of_getElem? (i := 133) rfl)) rfl
theorem gw_2534 : (Cond.fieldLink "RelayHallModel" 73 "RelayHallModel" "draft" "[B") ∈ lw_G := x_gw (inT_10 _ (List.mem_of_getElem? (i := 134) rfl)) rfl
theorem gw_2535 : (Cond.fieldLink "RelayHallModel" 204 "RelayHallModel" "draftLong" "I") ∈ lw_G := x_gw (inT_10 _ (List.mem_of_getElem? (i := 135) rfl)) rfl
theorem gw_2536 : (Cond.fieldLink "RelayHallModel" 218 "RelayHallModel" "sizeAt" "I") ∈ lw_G := x_gw (inT_10 _ (List.mem_of_getElem? (i := 136) rfl)) rfl
theorem gw_2537 : (Cond.fieldLink "RelayHallModel" 76 "RelayHallModel" "patternFrom" "[I") ∈ lw_G := x_gw (inT_10 _ (List.mem_of_getElem? (i := 137) rfl)) rfl
theorem gw_2538 : (Cond.fieldLink "RelayHallModel" 80 "RelayHallModel" "patternTo" "[I") ∈ lw_G := x_gw (inT_10 _ (List.mem_of_getElem? (i := 138) rfl)) rfl
theorem gw_2539 : (Cond.fieldLink "RelayHallModel" 83 "RelayHallModel" "keyFrom" "[I") ∈ lw_G := x_gw (inT_10 _ (List.mem_of_getElem? (i := 139) rfl)) rfl
theorem gw_2540 : (Cond.fieldLink "RelayHallModel" 86 "RelayHallModel" "keyTo" "[I") ∈ lw_G := x_gw (inT_10 _ (List.mem_of_getElem? (i := 140) rfl)) rfl
theorem gw_2541 : (Cond.fieldLink "RelayHallModel" 89 "RelayHallModel" "row" "[Z") ∈ lw_G := x_gw (inT_10 _ (List.mem_of_getElem? (i := 141) rfl)) rfl
theorem gw_2542 : (Cond.fieldLink "RelayHallModel" 93 "RelayHallModel" "nextRow" "[Z") ∈ lw_G := x_gw (inT_10 _ (List.mem_of_getElem? (i := 142) rfl)) rfl
theorem gw_2543 : (Cond.fieldLink "RelayHallModel" 96 "RelayHallModel" "routed" "[LRelayHallModel$Queue;") ∈ lw_G := x_gw (inT_10 _ (List.mem_of_getElem? (i := 143) rfl)) rfl
theorem gw_2638 : (Cond.methodLink "RelayHallLaw" 36 ⟨"RelayHallModel", "type", "(JI)Z"⟩) ∈ lw_G := x_gw (inT_10 _ (List.mem_of_getElem? (i := 238) rfl)) rfl
theorem gw_2639 : (Cond.instanceMethod ⟨"RelayHallModel", "type", "(JI)Z"⟩) ∈ lw_G := x_gw (inT_10 _ (List.mem_of_getElem? (i := 239) rfl)) rfl
theorem gw_2640 : (Cond.selects "RelayHallModel" ⟨"RelayHallModel", "type", "(JI)Z"⟩ ⟨"RelayHallModel", "type", "(JI)Z"⟩) ∈ lw_G := x_gw (inT_11 _ (List.mem_of_getElem? (i := 0) rfl)) rfl
theorem gw_2641 : (Cond.code ⟨"RelayHallModel", "type", "(JI)Z"⟩ prog_14_method_149_code 5 (some .boolean)) ∈ lw_G := x_gw (inT_11 _ (List.mem_of_getElem? (i := 1) rfl)) rfl
theorem gw_2642 : (Cond.methodLink "RelayHallLaw" 41 ⟨"RelayHallModel", "connect", "(I)Z"⟩) ∈ lw_G := x_gw (inT_11 _ (List.mem_of_getElem? (i := 2) rfl)) rfl
theorem gw_2643 : (Cond.instanceMethod ⟨"RelayHallModel", "connect", "(I)Z"⟩) ∈ lw_G := x_gw (inT_11 _ (List.mem_of_getElem? (i := 3) rfl)) rfl
theorem gw_2644 : (Cond.selects "RelayHallModel" ⟨"RelayHallModel", "connect", "(I)Z"⟩ ⟨"RelayHallModel", "connect", "(I)Z"⟩) ∈ lw_G := x_gw (inT_11 _ (List.mem_of_getElem? (i := 4) rfl)) rfl
theorem gw_2645 : (Cond.code ⟨"RelayHallModel", "connect", "(I)Z"⟩ prog_14_method_151_code 3 (some .boolean)) ∈ lw_G := x_gw (inT_11 _ (List.mem_of_getElem? (i := 5) rfl)) rfl
theorem gw_2646 : (Cond.methodLink "RelayHallModel" 1002 ⟨"RelayHallModel", "isConnection", "(I)Z"⟩) ∈ lw_G := x_gw (inT_11 _ (List.mem_of_getElem? (i := 6) rfl)) rfl
theorem gw_2647 : (Cond.static ⟨"RelayHallModel", "isConnection", "(I)Z"⟩) ∈ lw_G := x_gw (inT_11 _ (List.mem_of_getElem? (i := 7) rfl)) rfl
theorem gw_2648 : (Cond.code ⟨"RelayHallModel", "isConnection", "(I)Z"⟩ prog_14_method_150_code 1 (some .boolean)) ∈ lw_G := x_gw (inT_11 _ (List.mem_of_getElem? (i := 8) rfl)) rfl
theorem gw_2649 : (Cond.methodLink "RelayHallLaw" 45 ⟨"RelayHallModel", "send", "(I)I"⟩) ∈ lw_G := x_gw (inT_11 _ (List.mem_of_getElem? (i := 9) rfl)) rfl
theorem gw_2650 : (Cond.instanceMethod ⟨"RelayHallModel", "send", "(I)I"⟩) ∈ lw_G := x_gw (inT_11 _ (List.mem_of_getElem? (i := 10) rfl)) rfl
theorem gw_2651 : (Cond.selects "RelayHallModel" ⟨"RelayHallModel", "send", "(I)I"⟩ ⟨"RelayHallModel", "send", "(I)I"⟩) ∈ lw_G := x_gw (inT_11 _ (List.mem_of_getElem? (i := 11) rfl)) rfl
theorem gw_2652 : (Cond.code ⟨"RelayHallModel", "send", "(I)I"⟩ prog_14_method_152_code 5 (some .int)) ∈ lw_G := x_gw (inT_11 _ (List.mem_of_getElem? (i := 12) rfl)) rfl
theorem gw_2653 : (Cond.methodLink "RelayHallModel" 1009 ⟨"RelayHallModel", "takeIn", "(LRelayHallModel$Connection;)V"⟩) ∈ lw_G := x_gw (inT_11 _ (List.mem_of_getElem? (i := 13) rfl)) rfl
theorem gw_2655 : (Cond.instanceMethod ⟨"RelayHallModel", "takeIn", "(LRelayHallModel$Connection;)V"⟩) ∈ lw_G := x_gw (inT_11 _ (List.mem_of_getElem? (i := 15) rfl)) rfl
theorem gw_2656 : (Cond.code ⟨"RelayHallModel", "takeIn", "(LRelayHallModel$Connection;)V"⟩ prog_14_method_148_code 3 none) ∈ lw_G := x_gw (inT_11 _ (List.mem_of_getElem? (i := 16) rfl)) rfl
theorem gw_2657 : (Cond.methodLink "RelayHallModel" 995 ⟨"RelayHallModel", "takesOne", "(LRelayHallModel$Connection;)Z"⟩) ∈ lw_G := x_gw (inT_11 _ (List.mem_of_getElem? (i := 17) rfl)) rfl
theorem gw_2659 : (Cond.instanceMethod ⟨"RelayHallModel", "takesOne", "(LRelayHallModel$Connection;)Z"⟩) ∈ lw_G := x_gw (inT_11 _ (List.mem_of_getElem? (i := 19) rfl)) rfl
theorem gw_2660 : (Cond.code ⟨"RelayHallModel", "takesOne", "(LRelayHallModel$Connection;)Z"⟩ prog_14_method_147_code 7 (some .boolean)) ∈ lw_G := x_gw (inT_11 _ (List.mem_of_getElem? (i := 20) rfl)) rfl
theorem gw_2661 : (Cond.methodLink "RelayHallModel" 972 ⟨"RelayHallModel", "greet", "(LRelayHallModel$Connection;)V"⟩) ∈ lw_G := x_gw (inT_11 _ (List.mem_of_getElem? (i := 21) rfl)) rfl
theorem gw_2663 : (Cond.instanceMethod ⟨"RelayHallModel", "greet", "(LRelayHallModel$Connection;)V"⟩) ∈ lw_G := x_gw (inT_11 _ (List.mem_of_getElem? (i := 23) rfl)) rfl
theorem gw_2664 : (Cond.code ⟨"RelayHallModel", "greet", "(LRelayHallModel$Connection;)V"⟩ prog_14_method_144_code 4 none) ∈ lw_G := x_gw (inT_11 _ (List.mem_of_getElem? (i := 24) rfl)) rfl
theorem gw_2665 : (Cond.fieldLink "RelayHallModel" 965 "RelayHallModel" "GREETS" "[B") ∈ lw_G := x_gw (inT_11 _ (List.mem_of_getElem? (i := 25) rfl)) rfl
theorem gw_2667 : (Cond.methodLink "RelayHallModel" 968 ⟨"RelayHallModel", "drop", "(LRelayHallModel$Connection;I)V"⟩) ∈ lw_G := x_gw (inT_11 _ (List.mem_of_getElem? (i := 27) rfl)) rfl
theorem gw_2669 : (Cond.instanceMethod ⟨"RelayHallModel", "drop", "(LRelayHallModel$Connection;I)V"⟩) ∈ lw_G := x_gw (inT_11 _ (List.mem_of_getElem? (i := 29) rfl)) rfl
theorem gw_2670 : (Cond.code ⟨"RelayHallModel", "drop", "(LRelayHallModel$Connection;I)V"⟩ prog_14_method_145_code 4 none) ∈ lw_G := x_gw (inT_11 _ (List.mem_of_getElem? (i := 30) rfl)) rfl
theorem gw_2671 : (Cond.methodLink "RelayHallModel" 256 ⟨"RelayHallModel", "beginMethod", "(III)V"⟩) ∈ lw_G := x_gw (inT_11 _ (List.mem_of_getElem? (i := 31) rfl)) rfl
theorem gw_2673 : (Cond.instanceMethod ⟨"RelayHallModel", "beginMethod", "(III)V"⟩) ∈ lw_G := x_gw (inT_11 _ (List.mem_of_getElem? (i := 33) rfl)) rfl
theorem gw_2674 : (Cond.code ⟨"RelayHallModel", "beginMethod", "(III)V"⟩ prog_14_method_25_code 4 none) ∈ lw_G := x_gw (inT_11 _ (List.mem_of_getElem? (i := 34) rfl)) rfl
theorem gw_2675 : (Cond.methodLink "RelayHallModel" 224 ⟨"RelayHallModel", "beginFrame", "(II)V"⟩) ∈ lw_G := x_gw (inT_11 _ (List.mem_of_getElem? (i := 35) rfl)) rfl
theorem gw_2677 : (Cond.instanceMethod ⟨"RelayHallModel", "beginFrame", "(II)V"⟩) ∈ lw_G := x_gw (inT_11 _ (List.mem_of_getElem? (i := 37) rfl)) rfl
theorem gw_2678 : (Cond.code ⟨"RelayHallModel", "beginFrame", "(II)V"⟩ prog_14_method_23_code 3 none) ∈ lw_G := x_gw (inT_11 _ (List.mem_of_getElem? (i := 38) rfl)) rfl
theorem gw_2679 : (Cond.methodLink "RelayHallModel" 207 ⟨"RelayHallModel", "put", "(I)V"⟩) ∈ lw_G := x_gw (inT_11 _ (List.mem_of_getElem? (i := 39) rfl)) rfl
theorem gw_2681 : (Cond.instanceMethod ⟨"RelayHallModel", "put", "(I)V"⟩) ∈ lw_G := x_gw (inT_11 _ (List.mem_of_getElem? (i := 41) rfl)) rfl
theorem gw_2682 : (Cond.code ⟨"RelayHallModel", "put", "(I)V"⟩ prog_14_method_18_code 2 none) ∈ lw_G := x_gw (inT_11 _ (List.mem_of_getElem? (i := 42) rfl)) rfl
theorem gw_2683 : (Cond.methodLink "RelayHallModel" 211 ⟨"RelayHallModel", "put16", "(I)V"⟩) ∈ lw_G := x_gw (inT_11 _ (List.mem_of_getElem? (i := 43) rfl)) rfl
theorem gw_2685 : (Cond.instanceMethod ⟨"RelayHallModel", "put16", "(I)V"⟩) ∈ lw_G := x_gw (inT_11 _ (List.mem_of_getElem? (i := 45) rfl)) rfl
theorem gw_2686 : (Cond.code ⟨"RelayHallModel", "put16", "(I)V"⟩ prog_14_method_19_code 2 none) ∈ lw_G := x_gw (inT_11 _ (List.mem_of_getElem? (i := 46) rfl)) rfl
theorem gw_2687 : (Cond.methodLink "RelayHallModel" 221 ⟨"RelayHallModel", "put32", "(I)V"⟩) ∈ lw_G := x_gw (inT_11 _ (List.mem_of_getElem? (i := 47) rfl)) rfl
theorem gw_2689 : (Cond.instanceMethod ⟨"RelayHallModel", "put32", "(I)V"⟩) ∈ lw_G := x_gw (inT_11 _ (List.mem_of_getElem? (i := 49) rfl)) rfl
theorem gw_2690 : (Cond.code ⟨"RelayHallModel", "put32", "(I)V"⟩ prog_14_method_20_code 2 none) ∈ lw_G := x_gw (inT_11 _ (List.mem_of_getElem? (i := 50) rfl)) rfl
theorem gw_2691 : (Cond.methodLink "RelayHallModel" 260 ⟨"RelayHallModel", "goFrame", "(LRelayHallModel$Connection;)V"⟩) ∈ lw_G := x_gw (inT_11 _ (List.mem_of_getElem? (i := 51) rfl)) rfl
theorem gw_2693 : (Cond.instanceMethod ⟨"RelayHallModel", "goFrame", "(LRelayHallModel$Connection;)V"⟩) ∈ lw_G := x_gw (inT_11 _ (List.mem_of_getElem? (i := 53) rfl)) rfl
theorem gw_2694 : (Cond.code ⟨"RelayHallModel", "goFrame", "(LRelayHallModel$Connection;)V"⟩ prog_14_method_27_code 2 none) ∈ lw_G := x_gw (inT_11 _ (List.mem_of_getElem? (i := 54) rfl)) rfl
theorem gw_2695 : (Cond.methodLink "RelayHallModel" 250 ⟨"RelayHallModel", "endFrame", "()V"⟩) ∈ lw_G := x_gw (inT_11 _ (List.mem_of_getElem? (i := 55) rfl)) rfl
theorem gw_2697 : (Cond.instanceMethod ⟨"RelayHallModel", "endFrame", "()V"⟩) ∈ lw_G := x_gw (inT_11 _ (List.mem_of_getElem? (i := 57) rfl)) rfl
theorem gw_2698 : (Cond.code ⟨"RelayHallModel", "endFrame", "()V"⟩ prog_14_method_24_code 2 none) ∈ lw_G := x_gw (inT_11 _ (List.mem_of_getElem? (i := 58) rfl)) rfl
theorem gw_2699 : (Cond.methodLink "RelayHallModel" 253 ⟨"RelayHallModel", "go", "(LRelayHallModel$Connection;)V"⟩) ∈ lw_G := x_gw (inT_11 _ (List.mem_of_getElem? (i := 59) rfl)) rfl
theorem gw_2701 : (Cond.instanceMethod ⟨"RelayHallModel", "go", "(LRelayHallModel$Connection;)V"⟩) ∈ lw_G := x_gw (inT_11 _ (List.mem_of_getElem? (i := 61) rfl)) rfl
theorem gw_2702 : (Cond.code ⟨"RelayHallModel", "go", "(LRelayHallModel$Connection;)V"⟩ prog_14_method_26_code 3 none) ∈ lw_G := x_gw (inT_11 _ (List.mem_of_getElem? (i := 62) rfl)) rfl
theorem gw_2703 : (Cond.methodLink "RelayHallModel" 234 ⟨"RelayHallModel", "close", "(LRelayHallModel$Connection;)V"⟩) ∈ lw_G := x_gw (inT_11 _ (List.mem_of_getElem? (i := 63) rfl)) rfl
theorem gw_2705 : (Cond.instanceMethod ⟨"RelayHallModel", "close", "(LRelayHallModel$Connection;)V"⟩) ∈ lw_G := x_gw (inT_11 _ (List.mem_of_getElem? (i := 65) rfl)) rfl
theorem gw_2706 : (Cond.code ⟨"RelayHallModel", "close", "(LRelayHallModel$Connection;)V"⟩ prog_14_method_36_code 3 none) ∈ lw_G := x_gw (inT_11 _ (List.mem_of_getElem? (i := 66) rfl)) rfl
theorem gw_2723 : (Cond.methodLink "RelayHallModel" 393 ⟨"RelayHallModel", "consumersOf", "(LRelayHallModel$Queue;)I"⟩) ∈ lw_G := x_gw (inT_11 _ (List.mem_of_getElem? (i := 83) rfl)) rfl
theorem gw_2725 : (Cond.instanceMethod ⟨"RelayHallModel", "consumersOf", "(LRelayHallModel$Queue;)I"⟩) ∈ lw_G := x_gw (inT_11 _ (List.mem_of_getElem? (i := 85) rfl)) rfl
theorem gw_2726 : (Cond.code ⟨"RelayHallModel", "consumersOf", "(LRelayHallModel$Queue;)I"⟩ prog_14_method_40_code 4 (some .int)) ∈ lw_G := x_gw (inT_11 _ (List.mem_of_getElem? (i := 86) rfl)) rfl
theorem gw_2779 : (Cond.methodLink "RelayHallModel" 496 ⟨"RelayHallModel", "putShort", "([B)V"⟩) ∈ lw_G := x_gw (inT_11 _ (List.mem_of_getElem? (i := 139) rfl)) rfl
theorem gw_2781 : (Cond.instanceMethod ⟨"RelayHallModel", "putShort", "([B)V"⟩) ∈ lw_G := x_gw (inT_11 _ (List.mem_of_getElem? (i := 141) rfl)) rfl
theorem gw_2782 : (Cond.code ⟨"RelayHallModel", "putShort", "([B)V"⟩ prog_14_method_22_code 2 none) ∈ lw_G := x_gw (inT_11 _ (List.mem_of_getElem? (i := 142) rfl)) rfl
theorem gw_2783 : (Cond.methodLink "RelayHallModel" 214 ⟨"RelayHallModel", "putBytes", "([B)V"⟩) ∈ lw_G := x_gw (inT_11 _ (List.mem_of_getElem? (i := 143) rfl)) rfl
theorem gw_2785 : (Cond.instanceMethod ⟨"RelayHallModel", "putBytes", "([B)V"⟩) ∈ lw_G := x_gw (inT_11 _ (List.mem_of_getElem? (i := 145) rfl)) rfl
theorem gw_2786 : (Cond.code ⟨"RelayHallModel", "putBytes", "([B)V"⟩ prog_14_method_21_code 3 none) ∈ lw_G := x_gw (inT_11 _ (List.mem_of_getElem? (i := 146) rfl)) rfl
theorem gw_2799 : (Cond.methodLink "RelayHallModel" 546 ⟨"RelayHallModel", "ready", "(LRelayHallModel$Queue;)I"⟩) ∈ lw_G := x_gw (inT_11 _ (List.mem_of_getElem? (i := 159) rfl)) rfl
theorem gw_2801 : (Cond.instanceMethod ⟨"RelayHallModel", "ready", "(LRelayHallModel$Queue;)I"⟩) ∈ lw_G := x_gw (inT_11 _ (List.mem_of_getElem? (i := 161) rfl)) rfl
theorem gw_2802 : (Cond.code ⟨"RelayHallModel", "ready", "(LRelayHallModel$Queue;)I"⟩ prog_14_method_56_code 4 (some .int)) ∈ lw_G := x_gw (inT_11 _ (List.mem_of_getElem? (i := 162) rfl)) rfl
theorem gw_2803 : (Cond.methodLink "RelayHallModel" 549 ⟨"RelayHallModel", "first", "(LRelayHallModel$Queue;)LRelayHallModel$Entry;"⟩) ∈ lw_G := x_gw (inT_11 _ (List.mem_of_getElem? (i := 163) rfl)) rfl
theorem gw_2805 : (Cond.instanceMethod ⟨"RelayHallModel", "first", "(LRelayHallModel$Queue;)LRelayHallModel$Entry;"⟩) ∈ lw_G := x_gw (inT_11 _ (List.mem_of_getElem? (i := 165) rfl)) rfl
theorem gw_2806 : (Cond.code ⟨"RelayHallModel", "first", "(LRelayHallModel$Queue;)LRelayHallModel$Entry;"⟩ prog_14_method_59_code 4 (some (.object "RelayHallModel$Entry"))) ∈ lw_G := x_gw (inT_11 _ (List.mem_of_getElem? (i := 166) rfl)) rfl
theorem gw_2840 : (Cond.methodLink "RelayHallModel" 975 ⟨"RelayHallModel", "word", "([BII)I"⟩) ∈ lw_G := x_gw (inT_11 _ (List.mem_of_getElem? (i := 200) rfl)) rfl
theorem gw_2841 : (Cond.static ⟨"RelayHallModel", "word", "([BII)I"⟩) ∈ lw_G := x_gw (inT_11 _ (List.mem_of_getElem? (i := 201) rfl)) rfl
theorem gw_2842 : (Cond.code ⟨"RelayHallModel", "word", "([BII)I"⟩ prog_14_method_146_code 5 (some .int)) ∈ lw_G := x_gw (inT_11 _ (List.mem_of_getElem? (i := 202) rfl)) rfl
theorem gw_2843 : (Cond.methodLink "RelayHallModel" 979 ⟨"RelayHallModel", "noFrame", "(LRelayHallModel$Connection;)V"⟩) ∈ lw_G := x_gw (inT_11 _ (List.mem_of_getElem? (i := 203) rfl)) rfl
theorem gw_2845 : (Cond.instanceMethod ⟨"RelayHallModel", "noFrame", "(LRelayHallModel$Connection;)V"⟩) ∈ lw_G := x_gw (inT_11 _ (List.mem_of_getElem? (i := 205) rfl)) rfl
theorem gw_2846 : (Cond.code ⟨"RelayHallModel", "noFrame", "(LRelayHallModel$Connection;)V"⟩ prog_14_method_143_code 2 none) ∈ lw_G := x_gw (inT_11 _ (List.mem_of_getElem? (i := 206) rfl)) rfl
theorem gw_2847 : (Cond.methodLink "RelayHallModel" 632 ⟨"RelayHallModel", "hard", "(LRelayHallModel$Connection;III)V"⟩) ∈ lw_G := x_gw (inT_11 _ (List.mem_of_getElem? (i := 207) rfl)) rfl
theorem gw_2849 : (Cond.instanceMethod ⟨"RelayHallModel", "hard", "(LRelayHallModel$Connection;III)V"⟩) ∈ lw_G := x_gw (inT_11 _ (List.mem_of_getElem? (i := 209) rfl)) rfl
theorem gw_2850 : (Cond.code ⟨"RelayHallModel", "hard", "(LRelayHallModel$Connection;III)V"⟩ prog_14_method_32_code 5 none) ∈ lw_G := x_gw (inT_11 _ (List.mem_of_getElem? (i := 210) rfl)) rfl
theorem gw_2855 : (Cond.methodLink "RelayHallModel" 959 ⟨"RelayHallModel", "dispatch", "()V"⟩) ∈ lw_G := x_gw (inT_11 _ (List.mem_of_getElem? (i := 215) rfl)) rfl
theorem gw_2857 : (Cond.instanceMethod ⟨"RelayHallModel", "dispatch", "()V"⟩) ∈ lw_G := x_gw (inT_11 _ (List.mem_of_getElem? (i := 217) rfl)) rfl
theorem gw_2858 : (Cond.code ⟨"RelayHallModel", "dispatch", "()V"⟩ prog_14_method_86_code 2 none) ∈ lw_G := x_gw (inT_11 _ (List.mem_of_getElem? (i := 218) rfl)) rfl
theorem gw_2859 : (Cond.methodLink "RelayHallModel" 702 ⟨"RelayHallModel", "dispatchOne", "()Z"⟩) ∈ lw_G := x_gw (inT_11 _ (List.mem_of_getElem? (i := 219) rfl)) rfl
theorem gw_2861 : (Cond.instanceMethod ⟨"RelayHallModel", "dispatchOne", "()Z"⟩) ∈ lw_G := x_gw (inT_11 _ (List.mem_of_getElem? (i := 221) rfl)) rfl
theorem gw_2862 : (Cond.code ⟨"RelayHallModel", "dispatchOne", "()Z"⟩ prog_14_method_85_code 3 (some .boolean)) ∈ lw_G := x_gw (inT_11 _ (List.mem_of_getElem? (i := 222) rfl)) rfl
theorem gw_2863 : (Cond.methodLink "RelayHallModel" 691 ⟨"RelayHallModel", "bury", "()V"⟩) ∈ lw_G := x_gw (inT_11 _ (List.mem_of_getElem? (i := 223) rfl)) rfl
theorem gw_2865 : (Cond.instanceMethod ⟨"RelayHallModel", "bury", "()V"⟩) ∈ lw_G := x_gw (inT_11 _ (List.mem_of_getElem? (i := 225) rfl)) rfl
theorem gw_2866 : (Cond.code ⟨"RelayHallModel", "bury", "()V"⟩ prog_14_method_75_code 7 none) ∈ lw_G := x_gw (inT_11 _ (List.mem_of_getElem? (i := 226) rfl)) rfl
theorem gw_2882 : (Cond.methodLink "RelayHallModel" 606 ⟨"RelayHallModel", "queue", "([B)LRelayHallModel$Queue;"⟩) ∈ lw_G := x_gw (inT_12 _ (List.mem_of_getElem? (i := 2) rfl)) rfl
theorem gw_2884 : (Cond.instanceMethod ⟨"RelayHallModel", "queue", "([B)LRelayHallModel$Queue;"⟩) ∈ lw_G := x_gw (inT_12 _ (List.mem_of_getElem? (i := 4) rfl)) rfl
theorem gw_2885 : (Cond.code ⟨"RelayHallModel", "queue", "([B)LRelayHallModel$Queue;"⟩ prog_14_method_50_code 3 (some (.object "RelayHallModel$Queue"))) ∈ lw_G := x_gw (inT_12 _ (List.mem_of_getElem? (i := 5) rfl)) rfl
theorem gw_2965 : (Cond.methodLink "RelayHallModel" 694 ⟨"RelayHallModel", "nextOf", "(LRelayHallModel$Queue;)LRelayHallModel$Consumer;"⟩) ∈ lw_G := x_gw (inT_12 _ (List.mem_of_getElem? (i := 85) rfl)) rfl
theorem gw_2967 : (Cond.instanceMethod ⟨"RelayHallModel", "nextOf", "(LRelayHallModel$Queue;)LRelayHallModel$Consumer;"⟩) ∈ lw_G := x_gw (inT_12 _ (List.mem_of_getElem? (i := 87) rfl)) rfl
theorem gw_2968 : (Cond.code ⟨"RelayHallModel", "nextOf", "(LRelayHallModel$Queue;)LRelayHallModel$Consumer;"⟩ prog_14_method_82_code 5 (some (.object "RelayHallModel$Consumer"))) ∈ lw_G := x_gw (inT_12 _ (List.mem_of_getElem? (i := 88) rfl)) rfl
theorem gw_2977 : (Cond.methodLink "RelayHallModel" 698 ⟨"RelayHallModel", "deliver", "(LRelayHallModel$Queue;LRelayHallModel$Consumer;)V"⟩) ∈ lw_G := x_gw (inT_12 _ (List.mem_of_getElem? (i := 97) rfl)) rfl
theorem gw_2979 : (Cond.instanceMethod ⟨"RelayHallModel", "deliver", "(LRelayHallModel$Queue;LRelayHallModel$Consumer;)V"⟩) ∈ lw_G := x_gw (inT_12 _ (List.mem_of_getElem? (i := 99) rfl)) rfl
theorem gw_2980 : (Cond.code ⟨"RelayHallModel", "deliver", "(LRelayHallModel$Queue;LRelayHallModel$Consumer;)V"⟩ prog_14_method_84_code 6 none) ∈ lw_G := x_gw (inT_12 _ (List.mem_of_getElem? (i := 100) rfl)) rfl
theorem gw_3008 : (Cond.methodLink "RelayHallModel" 982 ⟨"RelayHallModel", "readHead", "(I)V"⟩) ∈ lw_G := x_gw (inT_12 _ (List.mem_of_getElem? (i := 128) rfl)) rfl
theorem gw_3010 : (Cond.instanceMethod ⟨"RelayHallModel", "readHead", "(I)V"⟩) ∈ lw_G := x_gw (inT_12 _ (List.mem_of_getElem? (i := 130) rfl)) rfl
theorem gw_3011 : (Cond.code ⟨"RelayHallModel", "readHead", "(I)V"⟩ prog_14_method_139_code 2 none) ∈ lw_G := x_gw (inT_12 _ (List.mem_of_getElem? (i := 131) rfl)) rfl
theorem gw_3012 : (Cond.methodLink "RelayHallModel" 133 ⟨"RelayHallModel", "u16", "()I"⟩) ∈ lw_G := x_gw (inT_12 _ (List.mem_of_getElem? (i := 132) rfl)) rfl
theorem gw_3014 : (Cond.instanceMethod ⟨"RelayHallModel", "u16", "()I"⟩) ∈ lw_G := x_gw (inT_12 _ (List.mem_of_getElem? (i := 134) rfl)) rfl
theorem gw_3015 : (Cond.code ⟨"RelayHallModel", "u16", "()I"⟩ prog_14_method_4_code 2 (some .int)) ∈ lw_G := x_gw (inT_12 _ (List.mem_of_getElem? (i := 135) rfl)) rfl
theorem gw_3016 : (Cond.methodLink "RelayHallModel" 129 ⟨"RelayHallModel", "u8", "()I"⟩) ∈ lw_G := x_gw (inT_12 _ (List.mem_of_getElem? (i := 136) rfl)) rfl
theorem gw_3018 : (Cond.instanceMethod ⟨"RelayHallModel", "u8", "()I"⟩) ∈ lw_G := x_gw (inT_12 _ (List.mem_of_getElem? (i := 138) rfl)) rfl
theorem gw_3019 : (Cond.code ⟨"RelayHallModel", "u8", "()I"⟩ prog_14_method_3_code 2 (some .int)) ∈ lw_G := x_gw (inT_12 _ (List.mem_of_getElem? (i := 139) rfl)) rfl
theorem gw_3020 : (Cond.methodLink "RelayHallModel" 985 ⟨"RelayHallModel", "onOpen", "(LRelayHallModel$Connection;II)V"⟩) ∈ lw_G := x_gw (inT_12 _ (List.mem_of_getElem? (i := 140) rfl)) rfl
theorem gw_3022 : (Cond.instanceMethod ⟨"RelayHallModel", "onOpen", "(LRelayHallModel$Connection;II)V"⟩) ∈ lw_G := x_gw (inT_12 _ (List.mem_of_getElem? (i := 142) rfl)) rfl
theorem gw_3023 : (Cond.code ⟨"RelayHallModel", "onOpen", "(LRelayHallModel$Connection;II)V"⟩ prog_14_method_140_code 5 none) ∈ lw_G := x_gw (inT_12 _ (List.mem_of_getElem? (i := 143) rfl)) rfl
theorem gw_3024 : (Cond.methodLink "RelayHallModel" 714 ⟨"RelayHallModel", "simple", "(LRelayHallModel$Connection;III)V"⟩) ∈ lw_G := x_gw (inT_12 _ (List.mem_of_getElem? (i := 144) rfl)) rfl
theorem gw_3026 : (Cond.instanceMethod ⟨"RelayHallModel", "simple", "(LRelayHallModel$Connection;III)V"⟩) ∈ lw_G := x_gw (inT_12 _ (List.mem_of_getElem? (i := 146) rfl)) rfl
theorem gw_3027 : (Cond.code ⟨"RelayHallModel", "simple", "(LRelayHallModel$Connection;III)V"⟩ prog_14_method_28_code 5 none) ∈ lw_G := x_gw (inT_12 _ (List.mem_of_getElem? (i := 147) rfl)) rfl
theorem gw_3028 : (Cond.methodLink "RelayHallModel" 944 ⟨"RelayHallModel", "onConnection", "(LRelayHallModel$Connection;)V"⟩) ∈ lw_G := x_gw (inT_12 _ (List.mem_of_getElem? (i := 148) rfl)) rfl
theorem gw_3030 : (Cond.instanceMethod ⟨"RelayHallModel", "onConnection", "(LRelayHallModel$Connection;)V"⟩) ∈ lw_G := x_gw (inT_12 _ (List.mem_of_getElem? (i := 150) rfl)) rfl
theorem gw_3031 : (Cond.code ⟨"RelayHallModel", "onConnection", "(LRelayHallModel$Connection;)V"⟩ prog_14_method_131_code 3 none) ∈ lw_G := x_gw (inT_12 _ (List.mem_of_getElem? (i := 151) rfl)) rfl
theorem gw_3036 : (Cond.methodLink "RelayHallModel" 156 ⟨"RelayHallModel", "shortText", "()[B"⟩) ∈ lw_G := x_gw (inT_12 _ (List.mem_of_getElem? (i := 156) rfl)) rfl
theorem gw_3038 : (Cond.instanceMethod ⟨"RelayHallModel", "shortText", "()[B"⟩) ∈ lw_G := x_gw (inT_12 _ (List.mem_of_getElem? (i := 158) rfl)) rfl
theorem gw_3039 : (Cond.code ⟨"RelayHallModel", "shortText", "()[B"⟩ prog_14_method_7_code 2 (some (.array .byte))) ∈ lw_G := x_gw (inT_12 _ (List.mem_of_getElem? (i := 159) rfl)) rfl
theorem gw_3040 : (Cond.fieldLink "RelayHallModel" 136 "RelayHallModel" "EMPTY" "[B") ∈ lw_G := x_gw (inT_12 _ (List.mem_of_getElem? (i := 160) rfl)) rfl
theorem gw_3042 : (Cond.methodLink "RelayHallModel" 139 ⟨"RelayHallModel", "bytes", "(I)[B"⟩) ∈ lw_G := x_gw (inT_12 _ (List.mem_of_getElem? (i := 162) rfl)) rfl
theorem gw_3044 : (Cond.instanceMethod ⟨"RelayHallModel", "bytes", "(I)[B"⟩) ∈ lw_G := x_gw (inT_12 _ (List.mem_of_getElem? (i := 164) rfl)) rfl
theorem gw_3045 : (Cond.code ⟨"RelayHallModel", "bytes", "(I)[B"⟩ prog_14_method_6_code 4 (some (.array .byte))) ∈ lw_G := x_gw (inT_12 _ (List.mem_of_getElem? (i := 165) rfl)) rfl
theorem gw_3046 : (Cond.methodLink "RelayHallModel" 720 ⟨"RelayHallModel", "whole", "()Z"⟩) ∈ lw_G := x_gw (inT_12 _ (List.mem_of_getElem? (i := 166) rfl)) rfl
theorem gw_3048 : (Cond.instanceMethod ⟨"RelayHallModel", "whole", "()Z"⟩) ∈ lw_G := x_gw (inT_12 _ (List.mem_of_getElem? (i := 168) rfl)) rfl
theorem gw_3049 : (Cond.code ⟨"RelayHallModel", "whole", "()Z"⟩ prog_14_method_10_code 1 (some .boolean)) ∈ lw_G := x_gw (inT_12 _ (List.mem_of_getElem? (i := 169) rfl)) rfl
theorem gw_3050 : (Cond.methodLink "RelayHallModel" 947 ⟨"RelayHallModel", "onChannel", "(LRelayHallModel$Connection;LRelayHallModel$Channel;)V"⟩) ∈ lw_G := x_gw (inT_12 _ (List.mem_of_getElem? (i := 170) rfl)) rfl
theorem gw_3052 : (Cond.instanceMethod ⟨"RelayHallModel", "onChannel", "(LRelayHallModel$Connection;LRelayHallModel$Channel;)V"⟩) ∈ lw_G := x_gw (inT_12 _ (List.mem_of_getElem? (i := 172) rfl)) rfl
theorem gw_3053 : (Cond.code ⟨"RelayHallModel", "onChannel", "(LRelayHallModel$Connection;LRelayHallModel$Channel;)V"⟩ prog_14_method_132_code 5 none) ∈ lw_G := x_gw (inT_12 _ (List.mem_of_getElem? (i := 173) rfl)) rfl
theorem gw_3054 : (Cond.methodLink "RelayHallModel" 870 ⟨"RelayHallModel", "isTold", "(II)Z"⟩) ∈ lw_G := x_gw (inT_12 _ (List.mem_of_getElem? (i := 174) rfl)) rfl
theorem gw_3056 : (Cond.instanceMethod ⟨"RelayHallModel", "isTold", "(II)Z"⟩) ∈ lw_G := x_gw (inT_12 _ (List.mem_of_getElem? (i := 176) rfl)) rfl
theorem gw_3057 : (Cond.code ⟨"RelayHallModel", "isTold", "(II)Z"⟩ prog_14_method_130_code 3 (some .boolean)) ∈ lw_G := x_gw (inT_12 _ (List.mem_of_getElem? (i := 177) rfl)) rfl
theorem gw_3058 : (Cond.methodLink "RelayHallModel" 717 ⟨"RelayHallModel", "wrong", "(LRelayHallModel$Channel;)Z"⟩) ∈ lw_G := x_gw (inT_12 _ (List.mem_of_getElem? (i := 178) rfl)) rfl
theorem gw_3060 : (Cond.instanceMethod ⟨"RelayHallModel", "wrong", "(LRelayHallModel$Channel;)Z"⟩) ∈ lw_G := x_gw (inT_12 _ (List.mem_of_getElem? (i := 180) rfl)) rfl
theorem gw_3061 : (Cond.code ⟨"RelayHallModel", "wrong", "(LRelayHallModel$Channel;)Z"⟩ prog_14_method_89_code 2 (some .boolean)) ∈ lw_G := x_gw (inT_12 _ (List.mem_of_getElem? (i := 181) rfl)) rfl
theorem gw_3062 : (Cond.methodLink "RelayHallModel" 873 ⟨"RelayHallModel", "opens", "(LRelayHallModel$Channel;)V"⟩) ∈ lw_G := x_gw (inT_12 _ (List.mem_of_getElem? (i := 182) rfl)) rfl
theorem gw_3064 : (Cond.instanceMethod ⟨"RelayHallModel", "opens", "(LRelayHallModel$Channel;)V"⟩) ∈ lw_G := x_gw (inT_12 _ (List.mem_of_getElem? (i := 184) rfl)) rfl
theorem gw_3065 : (Cond.code ⟨"RelayHallModel", "opens", "(LRelayHallModel$Channel;)V"⟩ prog_14_method_87_code 2 none) ∈ lw_G := x_gw (inT_12 _ (List.mem_of_getElem? (i := 185) rfl)) rfl
theorem gw_3066 : (Cond.methodLink "RelayHallModel" 876 ⟨"RelayHallModel", "flow", "(LRelayHallModel$Channel;)V"⟩) ∈ lw_G := x_gw (inT_12 _ (List.mem_of_getElem? (i := 186) rfl)) rfl
theorem gw_3068 : (Cond.instanceMethod ⟨"RelayHallModel", "flow", "(LRelayHallModel$Channel;)V"⟩) ∈ lw_G := x_gw (inT_12 _ (List.mem_of_getElem? (i := 188) rfl)) rfl
theorem gw_3069 : (Cond.code ⟨"RelayHallModel", "flow", "(LRelayHallModel$Channel;)V"⟩ prog_14_method_88_code 3 none) ∈ lw_G := x_gw (inT_12 _ (List.mem_of_getElem? (i := 189) rfl)) rfl
theorem gw_3070 : (Cond.methodLink "RelayHallModel" 879 ⟨"RelayHallModel", "closesChannel", "(LRelayHallModel$Channel;)V"⟩) ∈ lw_G := x_gw (inT_12 _ (List.mem_of_getElem? (i := 190) rfl)) rfl
theorem gw_3072 : (Cond.instanceMethod ⟨"RelayHallModel", "closesChannel", "(LRelayHallModel$Channel;)V"⟩) ∈ lw_G := x_gw (inT_12 _ (List.mem_of_getElem? (i := 192) rfl)) rfl
theorem gw_3073 : (Cond.code ⟨"RelayHallModel", "closesChannel", "(LRelayHallModel$Channel;)V"⟩ prog_14_method_91_code 2 none) ∈ lw_G := x_gw (inT_12 _ (List.mem_of_getElem? (i := 193) rfl)) rfl
theorem gw_3074 : (Cond.methodLink "RelayHallModel" 882 ⟨"RelayHallModel", "declareExchange", "(LRelayHallModel$Channel;)V"⟩) ∈ lw_G := x_gw (inT_12 _ (List.mem_of_getElem? (i := 194) rfl)) rfl
theorem gw_3076 : (Cond.instanceMethod ⟨"RelayHallModel", "declareExchange", "(LRelayHallModel$Channel;)V"⟩) ∈ lw_G := x_gw (inT_12 _ (List.mem_of_getElem? (i := 196) rfl)) rfl
theorem gw_3077 : (Cond.code ⟨"RelayHallModel", "declareExchange", "(LRelayHallModel$Channel;)V"⟩ prog_14_method_94_code 7 none) ∈ lw_G := x_gw (inT_12 _ (List.mem_of_getElem? (i := 197) rfl)) rfl
theorem gw_3078 : (Cond.methodLink "RelayHallModel" 732 ⟨"RelayHallModel", "table", "()LRelayHallModel$Table;"⟩) ∈ lw_G := x_gw (inT_12 _ (List.mem_of_getElem? (i := 198) rfl)) rfl
theorem gw_3080 : (Cond.instanceMethod ⟨"RelayHallModel", "table", "()LRelayHallModel$Table;"⟩) ∈ lw_G := x_gw (inT_12 _ (List.mem_of_getElem? (i := 200) rfl)) rfl
theorem gw_3081 : (Cond.code ⟨"RelayHallModel", "table", "()LRelayHallModel$Table;"⟩ prog_14_method_8_code 6 (some (.object "RelayHallModel$Table"))) ∈ lw_G := x_gw (inT_12 _ (List.mem_of_getElem? (i := 201) rfl)) rfl
theorem gw_3082 : (Cond.classLink "RelayHallModel" 143 "RelayHallModel$Table") ∈ lw_G := x_gw (inT_12 _ (List.mem_of_getElem? (i := 202) rfl)) rfl
theorem gw_3083 : (Cond.instantiable "RelayHallModel$Table" 6) ∈ lw_G := x_gw (inT_12 _ (List.mem_of_getElem? (i := 203) rfl)) rfl
theorem gw_3085 : (Cond.instanceMethod ⟨"RelayHallModel$Table", "<init>", "()V"⟩) ∈ lw_G := x_gw (inT_12 _ (List.mem_of_getElem? (i := 205) rfl)) rfl
theorem gw_3086 : (Cond.code ⟨"RelayHallModel$Table", "<init>", "()V"⟩ prog_27_method_1_code 1 none) ∈ lw_G := x_gw (inT_12 _ (List.mem_of_getElem? (i := 206) rfl)) rfl
theorem gw_3087 : (Cond.methodLink "RelayHallModel$Table" 1 ⟨"java/lang/Object", "<init>", "()V"⟩) ∈ lw_G := x_gw (inT_12 _ (List.mem_of_getElem? (i := 207) rfl)) rfl
theorem gw_3088 : (Cond.classLink "RelayHallModel$Table" 7 "[B") ∈ lw_G := x_gw (inT_12 _ (List.mem_of_getElem? (i := 208) rfl)) rfl
theorem gw_3090 : (Cond.fieldLink "RelayHallModel" 149 "RelayHallModel$Table" "many" "I") ∈ lw_G := x_gw (inT_12 _ (List.mem_of_getElem? (i := 210) rfl)) rfl
theorem gw_3091 : (Cond.fieldLink "RelayHallModel$Table" 9 "RelayHallModel$Table" "names" "[[B") ∈ lw_G := x_gw (inT_12 _ (List.mem_of_getElem? (i := 211) rfl)) rfl
theorem gw_3092 : (Cond.fieldLink "RelayHallModel" 152 "RelayHallModel$Table" "names" "[[B") ∈ lw_G := x_gw (inT_12 _ (List.mem_of_getElem? (i := 212) rfl)) rfl
theorem gw_3093 : (Cond.fieldLink "RelayHallModel$Table" 15 "RelayHallModel$Table" "kinds" "[I") ∈ lw_G := x_gw (inT_12 _ (List.mem_of_getElem? (i := 213) rfl)) rfl
theorem gw_3094 : (Cond.fieldLink "RelayHallModel" 160 "RelayHallModel$Table" "kinds" "[I") ∈ lw_G := x_gw (inT_12 _ (List.mem_of_getElem? (i := 214) rfl)) rfl
theorem gw_3095 : (Cond.fieldLink "RelayHallModel$Table" 19 "RelayHallModel$Table" "numbers" "[I") ∈ lw_G := x_gw (inT_12 _ (List.mem_of_getElem? (i := 215) rfl)) rfl
theorem gw_3096 : (Cond.fieldLink "RelayHallModel" 163 "RelayHallModel$Table" "numbers" "[I") ∈ lw_G := x_gw (inT_12 _ (List.mem_of_getElem? (i := 216) rfl)) rfl
theorem gw_3097 : (Cond.fieldLink "RelayHallModel$Table" 22 "RelayHallModel$Table" "texts" "[[B") ∈ lw_G := x_gw (inT_12 _ (List.mem_of_getElem? (i := 217) rfl)) rfl
theorem gw_3098 : (Cond.fieldLink "RelayHallModel" 166 "RelayHallModel$Table" "texts" "[[B") ∈ lw_G := x_gw (inT_12 _ (List.mem_of_getElem? (i := 218) rfl)) rfl
theorem gw_3099 : (Cond.fieldLink "RelayHallModel" 172 "RelayHallModel$Table" "raw" "[B") ∈ lw_G := x_gw (inT_12 _ (List.mem_of_getElem? (i := 219) rfl)) rfl
theorem gw_3113 : (Cond.methodLink "RelayHallModel" 146 ⟨"RelayHallModel", "u32", "()I"⟩) ∈ lw_G := x_gw (inT_12 _ (List.mem_of_getElem? (i := 233) rfl)) rfl
theorem gw_3115 : (Cond.instanceMethod ⟨"RelayHallModel", "u32", "()I"⟩) ∈ lw_G := x_gw (inT_12 _ (List.mem_of_getElem? (i := 235) rfl)) rfl
theorem gw_3116 : (Cond.code ⟨"RelayHallModel", "u32", "()I"⟩ prog_14_method_5_code 2 (some .int)) ∈ lw_G := x_gw (inT_12 _ (List.mem_of_getElem? (i := 236) rfl)) rfl
theorem gw_3117 : (Cond.methodLink "RelayHallModel" 169 ⟨"RelayHallModel", "longText", "()[B"⟩) ∈ lw_G := x_gw (inT_12 _ (List.mem_of_getElem? (i := 237) rfl)) rfl
theorem gw_3119 : (Cond.instanceMethod ⟨"RelayHallModel", "longText", "()[B"⟩) ∈ lw_G := x_gw (inT_12 _ (List.mem_of_getElem? (i := 239) rfl)) rfl
theorem gw_3120 : (Cond.code ⟨"RelayHallModel", "longText", "()[B"⟩ prog_14_method_9_code 2 (some (.array .byte))) ∈ lw_G := x_gw (inT_13 _ (List.mem_of_getElem? (i := 0) rfl)) rfl
theorem gw_3121 : (Cond.methodLink "RelayHallModel" 735 ⟨"RelayHallModel", "soft", "(LRelayHallModel$Channel;I)V"⟩) ∈ lw_G := x_gw (inT_13 _ (List.mem_of_getElem? (i := 1) rfl)) rfl
theorem gw_3123 : (Cond.instanceMethod ⟨"RelayHallModel", "soft", "(LRelayHallModel$Channel;I)V"⟩) ∈ lw_G := x_gw (inT_13 _ (List.mem_of_getElem? (i := 3) rfl)) rfl
theorem gw_3124 : (Cond.code ⟨"RelayHallModel", "soft", "(LRelayHallModel$Channel;I)V"⟩ prog_14_method_33_code 3 none) ∈ lw_G := x_gw (inT_13 _ (List.mem_of_getElem? (i := 4) rfl)) rfl
theorem gw_3171 : (Cond.methodLink "RelayHallModel" 885 ⟨"RelayHallModel", "deleteExchange", "(LRelayHallModel$Channel;)V"⟩) ∈ lw_G := x_gw (inT_13 _ (List.mem_of_getElem? (i := 51) rfl)) rfl
theorem gw_3173 : (Cond.instanceMethod ⟨"RelayHallModel", "deleteExchange", "(LRelayHallModel$Channel;)V"⟩) ∈ lw_G := x_gw (inT_13 _ (List.mem_of_getElem? (i := 53) rfl)) rfl
theorem gw_3174 : (Cond.code ⟨"RelayHallModel", "deleteExchange", "(LRelayHallModel$Channel;)V"⟩ prog_14_method_96_code 5 none) ∈ lw_G := x_gw (inT_13 _ (List.mem_of_getElem? (i := 54) rfl)) rfl
theorem gw_3175 : (Cond.methodLink "RelayHallModel" 888 ⟨"RelayHallModel", "onQueue", "(LRelayHallModel$Channel;)V"⟩) ∈ lw_G := x_gw (inT_13 _ (List.mem_of_getElem? (i := 55) rfl)) rfl
theorem gw_3177 : (Cond.instanceMethod ⟨"RelayHallModel", "onQueue", "(LRelayHallModel$Channel;)V"⟩) ∈ lw_G := x_gw (inT_13 _ (List.mem_of_getElem? (i := 57) rfl)) rfl
theorem gw_3178 : (Cond.code ⟨"RelayHallModel", "onQueue", "(LRelayHallModel$Channel;)V"⟩ prog_14_method_133_code 2 none) ∈ lw_G := x_gw (inT_13 _ (List.mem_of_getElem? (i := 58) rfl)) rfl
theorem gw_3179 : (Cond.methodLink "RelayHallModel" 899 ⟨"RelayHallModel", "declareQueue", "(LRelayHallModel$Channel;)V"⟩) ∈ lw_G := x_gw (inT_13 _ (List.mem_of_getElem? (i := 59) rfl)) rfl
theorem gw_3181 : (Cond.instanceMethod ⟨"RelayHallModel", "declareQueue", "(LRelayHallModel$Channel;)V"⟩) ∈ lw_G := x_gw (inT_13 _ (List.mem_of_getElem? (i := 61) rfl)) rfl
theorem gw_3182 : (Cond.code ⟨"RelayHallModel", "declareQueue", "(LRelayHallModel$Channel;)V"⟩ prog_14_method_102_code 7 none) ∈ lw_G := x_gw (inT_13 _ (List.mem_of_getElem? (i := 62) rfl)) rfl
theorem gw_3183 : (Cond.methodLink "RelayHallModel" 770 ⟨"RelayHallModel", "passive", "(LRelayHallModel$Channel;LRelayHallModel$Queue;)LRelayHallModel$Queue;"⟩) ∈ lw_G := x_gw (inT_13 _ (List.mem_of_getElem? (i := 63) rfl)) rfl
theorem gw_3185 : (Cond.instanceMethod ⟨"RelayHallModel", "passive", "(LRelayHallModel$Channel;LRelayHallModel$Queue;)LRelayHallModel$Queue;"⟩) ∈ lw_G := x_gw (inT_13 _ (List.mem_of_getElem? (i := 65) rfl)) rfl
theorem gw_3186 : (Cond.code ⟨"RelayHallModel", "passive", "(LRelayHallModel$Channel;LRelayHallModel$Queue;)LRelayHallModel$Queue;"⟩ prog_14_method_103_code 3 (some (.object "RelayHallModel$Queue"))) ∈ lw_G := x_gw (inT_13 _ (List.mem_of_getElem? (i := 66) rfl)) rfl
theorem gw_3187 : (Cond.methodLink "RelayHallModel" 774 ⟨"RelayHallModel", "drafted", "(LRelayHallModel$Table;)LRelayHallModel$Queue;"⟩) ∈ lw_G := x_gw (inT_13 _ (List.mem_of_getElem? (i := 67) rfl)) rfl
theorem gw_3189 : (Cond.instanceMethod ⟨"RelayHallModel", "drafted", "(LRelayHallModel$Table;)LRelayHallModel$Queue;"⟩) ∈ lw_G := x_gw (inT_13 _ (List.mem_of_getElem? (i := 69) rfl)) rfl
theorem gw_3190 : (Cond.code ⟨"RelayHallModel", "drafted", "(LRelayHallModel$Table;)LRelayHallModel$Queue;"⟩ prog_14_method_101_code 3 (some (.object "RelayHallModel$Queue"))) ∈ lw_G := x_gw (inT_13 _ (List.mem_of_getElem? (i := 70) rfl)) rfl
theorem gw_3197 : (Cond.fieldLink "RelayHallModel" 452 "RelayHallModel$Queue" "name" "[B") ∈ lw_G := x_gw (inT_13 _ (List.mem_of_getElem? (i := 77) rfl)) rfl
theorem gw_3256 : (Cond.methodLink "RelayHallModel" 778 ⟨"RelayHallModel", "declared", "(LRelayHallModel$Channel;[BILRelayHallModel$Queue;)LRelayHallModel$Queue;"⟩) ∈ lw_G := x_gw (inT_13 _ (List.mem_of_getElem? (i := 136) rfl)) rfl
theorem gw_3258 : (Cond.instanceMethod ⟨"RelayHallModel", "declared", "(LRelayHallModel$Channel;[BILRelayHallModel$Queue;)LRelayHallModel$Queue;"⟩) ∈ lw_G := x_gw (inT_13 _ (List.mem_of_getElem? (i := 138) rfl)) rfl
theorem gw_3259 : (Cond.code ⟨"RelayHallModel", "declared", "(LRelayHallModel$Channel;[BILRelayHallModel$Queue;)LRelayHallModel$Queue;"⟩ prog_14_method_104_code 12 (some (.object "RelayHallModel$Queue"))) ∈ lw_G := x_gw (inT_13 _ (List.mem_of_getElem? (i := 139) rfl)) rfl
theorem gw_3264 : (Cond.methodLink "RelayHallModel" 902 ⟨"RelayHallModel", "bind", "(LRelayHallModel$Channel;Z)V"⟩) ∈ lw_G := x_gw (inT_13 _ (List.mem_of_getElem? (i := 144) rfl)) rfl
theorem gw_3266 : (Cond.instanceMethod ⟨"RelayHallModel", "bind", "(LRelayHallModel$Channel;Z)V"⟩) ∈ lw_G := x_gw (inT_13 _ (List.mem_of_getElem? (i := 146) rfl)) rfl
theorem gw_3267 : (Cond.code ⟨"RelayHallModel", "bind", "(LRelayHallModel$Channel;Z)V"⟩ prog_14_method_107_code 11 none) ∈ lw_G := x_gw (inT_13 _ (List.mem_of_getElem? (i := 147) rfl)) rfl
theorem gw_3312 : (Cond.methodLink "RelayHallModel" 905 ⟨"RelayHallModel", "purge", "(LRelayHallModel$Channel;)V"⟩) ∈ lw_G := x_gw (inT_13 _ (List.mem_of_getElem? (i := 192) rfl)) rfl
theorem gw_3314 : (Cond.instanceMethod ⟨"RelayHallModel", "purge", "(LRelayHallModel$Channel;)V"⟩) ∈ lw_G := x_gw (inT_13 _ (List.mem_of_getElem? (i := 194) rfl)) rfl
theorem gw_3315 : (Cond.code ⟨"RelayHallModel", "purge", "(LRelayHallModel$Channel;)V"⟩ prog_14_method_110_code 7 none) ∈ lw_G := x_gw (inT_13 _ (List.mem_of_getElem? (i := 195) rfl)) rfl
theorem gw_3316 : (Cond.methodLink "RelayHallModel" 908 ⟨"RelayHallModel", "deleteQueue", "(LRelayHallModel$Channel;)V"⟩) ∈ lw_G := x_gw (inT_13 _ (List.mem_of_getElem? (i := 196) rfl)) rfl
theorem gw_3318 : (Cond.instanceMethod ⟨"RelayHallModel", "deleteQueue", "(LRelayHallModel$Channel;)V"⟩) ∈ lw_G := x_gw (inT_13 _ (List.mem_of_getElem? (i := 198) rfl)) rfl
theorem gw_3319 : (Cond.code ⟨"RelayHallModel", "deleteQueue", "(LRelayHallModel$Channel;)V"⟩ prog_14_method_111_code 6 none) ∈ lw_G := x_gw (inT_13 _ (List.mem_of_getElem? (i := 199) rfl)) rfl
theorem gw_3320 : (Cond.methodLink "RelayHallModel" 891 ⟨"RelayHallModel", "onMessage", "(LRelayHallModel$Channel;)V"⟩) ∈ lw_G := x_gw (inT_13 _ (List.mem_of_getElem? (i := 200) rfl)) rfl
theorem gw_3322 : (Cond.instanceMethod ⟨"RelayHallModel", "onMessage", "(LRelayHallModel$Channel;)V"⟩) ∈ lw_G := x_gw (inT_13 _ (List.mem_of_getElem? (i := 202) rfl)) rfl
theorem gw_3323 : (Cond.code ⟨"RelayHallModel", "onMessage", "(LRelayHallModel$Channel;)V"⟩ prog_14_method_134_code 2 none) ∈ lw_G := x_gw (inT_13 _ (List.mem_of_getElem? (i := 203) rfl)) rfl
theorem gw_3464 : (Cond.methodLink "RelayHallModel" 894 ⟨"RelayHallModel", "confirms", "(LRelayHallModel$Channel;)V"⟩) ∈ lw_G := x_gw (inT_14 _ (List.mem_of_getElem? (i := 104) rfl)) rfl
theorem gw_3466 : (Cond.instanceMethod ⟨"RelayHallModel", "confirms", "(LRelayHallModel$Channel;)V"⟩) ∈ lw_G := x_gw (inT_14 _ (List.mem_of_getElem? (i := 106) rfl)) rfl
theorem gw_3467 : (Cond.code ⟨"RelayHallModel", "confirms", "(LRelayHallModel$Channel;)V"⟩ prog_14_method_129_code 3 none) ∈ lw_G := x_gw (inT_14 _ (List.mem_of_getElem? (i := 107) rfl)) rfl
theorem gw_3468 : (Cond.methodLink "RelayHallModel" 896 ⟨"RelayHallModel", "transaction", "(LRelayHallModel$Channel;I)V"⟩) ∈ lw_G := x_gw (inT_14 _ (List.mem_of_getElem? (i := 108) rfl)) rfl
theorem gw_3470 : (Cond.instanceMethod ⟨"RelayHallModel", "transaction", "(LRelayHallModel$Channel;I)V"⟩) ∈ lw_G := x_gw (inT_14 _ (List.mem_of_getElem? (i := 110) rfl)) rfl
theorem gw_3471 : (Cond.code ⟨"RelayHallModel", "transaction", "(LRelayHallModel$Channel;I)V"⟩ prog_14_method_128_code 4 none) ∈ lw_G := x_gw (inT_14 _ (List.mem_of_getElem? (i := 111) rfl)) rfl
theorem gw_3492 : (Cond.methodLink "RelayHallModel" 951 ⟨"RelayHallModel", "header", "(LRelayHallModel$Channel;)V"⟩) ∈ lw_G := x_gw (inT_14 _ (List.mem_of_getElem? (i := 132) rfl)) rfl
theorem gw_3494 : (Cond.instanceMethod ⟨"RelayHallModel", "header", "(LRelayHallModel$Channel;)V"⟩) ∈ lw_G := x_gw (inT_14 _ (List.mem_of_getElem? (i := 134) rfl)) rfl
theorem gw_3495 : (Cond.code ⟨"RelayHallModel", "header", "(LRelayHallModel$Channel;)V"⟩ prog_14_method_137_code 6 none) ∈ lw_G := x_gw (inT_14 _ (List.mem_of_getElem? (i := 135) rfl)) rfl
theorem gw_3501 : (Cond.methodLink "RelayHallModel" 954 ⟨"RelayHallModel", "body", "(LRelayHallModel$Channel;)V"⟩) ∈ lw_G := x_gw (inT_14 _ (List.mem_of_getElem? (i := 141) rfl)) rfl
theorem gw_3503 : (Cond.instanceMethod ⟨"RelayHallModel", "body", "(LRelayHallModel$Channel;)V"⟩) ∈ lw_G := x_gw (inT_14 _ (List.mem_of_getElem? (i := 143) rfl)) rfl
theorem gw_3504 : (Cond.code ⟨"RelayHallModel", "body", "(LRelayHallModel$Channel;)V"⟩ prog_14_method_138_code 4 none) ∈ lw_G := x_gw (inT_14 _ (List.mem_of_getElem? (i := 144) rfl)) rfl
theorem gw_3505 : (Cond.methodLink "RelayHallModel" 989 ⟨"RelayHallModel", "onClosing", "(LRelayHallModel$Connection;I)V"⟩) ∈ lw_G := x_gw (inT_14 _ (List.mem_of_getElem? (i := 145) rfl)) rfl
theorem gw_3507 : (Cond.instanceMethod ⟨"RelayHallModel", "onClosing", "(LRelayHallModel$Connection;I)V"⟩) ∈ lw_G := x_gw (inT_14 _ (List.mem_of_getElem? (i := 147) rfl)) rfl
theorem gw_3508 : (Cond.code ⟨"RelayHallModel", "onClosing", "(LRelayHallModel$Connection;I)V"⟩ prog_14_method_141_code 3 none) ∈ lw_G := x_gw (inT_14 _ (List.mem_of_getElem? (i := 148) rfl)) rfl
theorem gw_3509 : (Cond.methodLink "RelayHallModel" 992 ⟨"RelayHallModel", "onGreeted", "(LRelayHallModel$Connection;II)V"⟩) ∈ lw_G := x_gw (inT_14 _ (List.mem_of_getElem? (i := 149) rfl)) rfl
theorem gw_3511 : (Cond.instanceMethod ⟨"RelayHallModel", "onGreeted", "(LRelayHallModel$Connection;II)V"⟩) ∈ lw_G := x_gw (inT_14 _ (List.mem_of_getElem? (i := 151) rfl)) rfl
theorem gw_3512 : (Cond.code ⟨"RelayHallModel", "onGreeted", "(LRelayHallModel$Connection;II)V"⟩ prog_14_method_142_code 8 none) ∈ lw_G := x_gw (inT_14 _ (List.mem_of_getElem? (i := 152) rfl)) rfl
theorem gw_3513 : (Cond.methodLink "RelayHallLaw" 49 ⟨"RelayHallModel", "cut", "(I)Z"⟩) ∈ lw_G := x_gw (inT_14 _ (List.mem_of_getElem? (i := 153) rfl)) rfl
theorem gw_3514 : (Cond.instanceMethod ⟨"RelayHallModel", "cut", "(I)Z"⟩) ∈ lw_G := x_gw (inT_14 _ (List.mem_of_getElem? (i := 154) rfl)) rfl
theorem gw_3515 : (Cond.selects "RelayHallModel" ⟨"RelayHallModel", "cut", "(I)Z"⟩ ⟨"RelayHallModel", "cut", "(I)Z"⟩) ∈ lw_G := x_gw (inT_14 _ (List.mem_of_getElem? (i := 155) rfl)) rfl
theorem gw_3516 : (Cond.code ⟨"RelayHallModel", "cut", "(I)Z"⟩ prog_14_method_153_code 2 (some .boolean)) ∈ lw_G := x_gw (inT_14 _ (List.mem_of_getElem? (i := 156) rfl)) rfl
theorem gw_3517 : (Cond.methodLink "RelayHallLaw" 53 ⟨"RelayHallModel", "waiting", "(I)I"⟩) ∈ lw_G := x_gw (inT_14 _ (List.mem_of_getElem? (i := 157) rfl)) rfl
theorem gw_3518 : (Cond.instanceMethod ⟨"RelayHallModel", "waiting", "(I)I"⟩) ∈ lw_G := x_gw (inT_14 _ (List.mem_of_getElem? (i := 158) rfl)) rfl
theorem gw_3519 : (Cond.selects "RelayHallModel" ⟨"RelayHallModel", "waiting", "(I)I"⟩ ⟨"RelayHallModel", "waiting", "(I)I"⟩) ∈ lw_G := x_gw (inT_14 _ (List.mem_of_getElem? (i := 159) rfl)) rfl
theorem gw_3520 : (Cond.code ⟨"RelayHallModel", "waiting", "(I)I"⟩ prog_14_method_154_code 2 (some .int)) ∈ lw_G := x_gw (inT_14 _ (List.mem_of_getElem? (i := 160) rfl)) rfl
theorem gw_3521 : (Cond.methodLink "RelayHallLaw" 59 ⟨"RelayHallModel", "read", "(II)J"⟩) ∈ lw_G := x_gw (inT_14 _ (List.mem_of_getElem? (i := 161) rfl)) rfl
theorem gw_3522 : (Cond.instanceMethod ⟨"RelayHallModel", "read", "(II)J"⟩) ∈ lw_G := x_gw (inT_14 _ (List.mem_of_getElem? (i := 162) rfl)) rfl
theorem gw_3523 : (Cond.selects "RelayHallModel" ⟨"RelayHallModel", "read", "(II)J"⟩ ⟨"RelayHallModel", "read", "(II)J"⟩) ∈ lw_G := x_gw (inT_14 _ (List.mem_of_getElem? (i := 163) rfl)) rfl
theorem gw_3524 : (Cond.code ⟨"RelayHallModel", "read", "(II)J"⟩ prog_14_method_155_code 7 (some .long)) ∈ lw_G := x_gw (inT_14 _ (List.mem_of_getElem? (i := 164) rfl)) rfl
theorem gw_3525 : (Cond.methodLink "RelayHallLaw" 63 ⟨"RelayHallModel", "tick", "(I)I"⟩) ∈ lw_G := x_gw (inT_14 _ (List.mem_of_getElem? (i := 165) rfl)) rfl
theorem gw_3526 : (Cond.instanceMethod ⟨"RelayHallModel", "tick", "(I)I"⟩) ∈ lw_G := x_gw (inT_14 _ (List.mem_of_getElem? (i := 166) rfl)) rfl
theorem gw_3527 : (Cond.selects "RelayHallModel" ⟨"RelayHallModel", "tick", "(I)I"⟩ ⟨"RelayHallModel", "tick", "(I)I"⟩) ∈ lw_G := x_gw (inT_14 _ (List.mem_of_getElem? (i := 167) rfl)) rfl
theorem gw_3528 : (Cond.code ⟨"RelayHallModel", "tick", "(I)I"⟩ prog_14_method_159_code 4 (some .int)) ∈ lw_G := x_gw (inT_14 _ (List.mem_of_getElem? (i := 168) rfl)) rfl
theorem gw_3569 : (Cond.methodLink "RelayHallLaw" 66 ⟨"RelayHallModel", "crash", "(I)I"⟩) ∈ lw_G := x_gw (inT_14 _ (List.mem_of_getElem? (i := 209) rfl)) rfl
theorem gw_3570 : (Cond.instanceMethod ⟨"RelayHallModel", "crash", "(I)I"⟩) ∈ lw_G := x_gw (inT_14 _ (List.mem_of_getElem? (i := 210) rfl)) rfl
theorem gw_3571 : (Cond.selects "RelayHallModel" ⟨"RelayHallModel", "crash", "(I)I"⟩ ⟨"RelayHallModel", "crash", "(I)I"⟩) ∈ lw_G := x_gw (inT_14 _ (List.mem_of_getElem? (i := 211) rfl)) rfl
theorem gw_3572 : (Cond.code ⟨"RelayHallModel", "crash", "(I)I"⟩ prog_14_method_162_code 5 (some .int)) ∈ lw_G := x_gw (inT_14 _ (List.mem_of_getElem? (i := 212) rfl)) rfl
theorem gw_3581 : (Cond.methodLink "RelayHallLaw" 71 ⟨"RelayHallModel", "connection", "(II)I"⟩) ∈ lw_G := x_gw (inT_14 _ (List.mem_of_getElem? (i := 221) rfl)) rfl
theorem gw_3582 : (Cond.instanceMethod ⟨"RelayHallModel", "connection", "(II)I"⟩) ∈ lw_G := x_gw (inT_14 _ (List.mem_of_getElem? (i := 222) rfl)) rfl
theorem gw_3583 : (Cond.selects "RelayHallModel" ⟨"RelayHallModel", "connection", "(II)I"⟩ ⟨"RelayHallModel", "connection", "(II)I"⟩) ∈ lw_G := x_gw (inT_14 _ (List.mem_of_getElem? (i := 223) rfl)) rfl
theorem gw_3584 : (Cond.code ⟨"RelayHallModel", "connection", "(II)I"⟩ prog_14_method_163_code 6 (some .int)) ∈ lw_G := x_gw (inT_14 _ (List.mem_of_getElem? (i := 224) rfl)) rfl
theorem gw_3585 : (Cond.methodLink "RelayHallLaw" 76 ⟨"RelayHallModel", "channel", "(III)I"⟩) ∈ lw_G := x_gw (inT_14 _ (List.mem_of_getElem? (i := 225) rfl)) rfl
theorem gw_3586 : (Cond.instanceMethod ⟨"RelayHallModel", "channel", "(III)I"⟩) ∈ lw_G := x_gw (inT_14 _ (List.mem_of_getElem? (i := 226) rfl)) rfl
theorem gw_3587 : (Cond.selects "RelayHallModel" ⟨"RelayHallModel", "channel", "(III)I"⟩ ⟨"RelayHallModel", "channel", "(III)I"⟩) ∈ lw_G := x_gw (inT_14 _ (List.mem_of_getElem? (i := 227) rfl)) rfl
theorem gw_3588 : (Cond.code ⟨"RelayHallModel", "channel", "(III)I"⟩ prog_14_method_164_code 7 (some .int)) ∈ lw_G := x_gw (inT_14 _ (List.mem_of_getElem? (i := 228) rfl)) rfl
theorem gw_3589 : (Cond.methodLink "RelayHallLaw" 80 ⟨"RelayHallModel", "queue", "(II)I"⟩) ∈ lw_G := x_gw (inT_14 _ (List.mem_of_getElem? (i := 229) rfl)) rfl
theorem gw_3590 : (Cond.instanceMethod ⟨"RelayHallModel", "queue", "(II)I"⟩) ∈ lw_G := x_gw (inT_14 _ (List.mem_of_getElem? (i := 230) rfl)) rfl
theorem gw_3591 : (Cond.selects "RelayHallModel" ⟨"RelayHallModel", "queue", "(II)I"⟩ ⟨"RelayHallModel", "queue", "(II)I"⟩) ∈ lw_G := x_gw (inT_14 _ (List.mem_of_getElem? (i := 231) rfl)) rfl
theorem gw_3592 : (Cond.code ⟨"RelayHallModel", "queue", "(II)I"⟩ prog_14_method_166_code 4 (some .int)) ∈ lw_G := x_gw (inT_14 _ (List.mem_of_getElem? (i := 232) rfl)) rfl
theorem gw_3596 : (Cond.methodLink "RelayHallLaw" 84 ⟨"RelayHallModel", "exchange", "(II)I"⟩) ∈ lw_G := x_gw (inT_14 _ (List.mem_of_getElem? (i := 236) rfl)) rfl
theorem gw_3597 : (Cond.instanceMethod ⟨"RelayHallModel", "exchange", "(II)I"⟩) ∈ lw_G := x_gw (inT_14 _ (List.mem_of_getElem? (i := 237) rfl)) rfl
theorem gw_3598 : (Cond.selects "RelayHallModel" ⟨"RelayHallModel", "exchange", "(II)I"⟩ ⟨"RelayHallModel", "exchange", "(II)I"⟩) ∈ lw_G := x_gw (inT_14 _ (List.mem_of_getElem? (i := 238) rfl)) rfl
theorem gw_3599 : (Cond.code ⟨"RelayHallModel", "exchange", "(II)I"⟩ prog_14_method_167_code 4 (some .int)) ∈ lw_G := x_gw (inT_14 _ (List.mem_of_getElem? (i := 239) rfl)) rfl
theorem gw_3600 : (Cond.methodLink "RelayHallLaw" 88 ⟨"RelayHallModel", "total", "(I)I"⟩) ∈ lw_G := x_gw (inT_15 _ (List.mem_of_getElem? (i := 0) rfl)) rfl
theorem gw_3601 : (Cond.instanceMethod ⟨"RelayHallModel", "total", "(I)I"⟩) ∈ lw_G := x_gw (inT_15 _ (List.mem_of_getElem? (i := 1) rfl)) rfl
theorem gw_3602 : (Cond.selects "RelayHallModel" ⟨"RelayHallModel", "total", "(I)I"⟩ ⟨"RelayHallModel", "total", "(I)I"⟩) ∈ lw_G := x_gw (inT_15 _ (List.mem_of_getElem? (i := 2) rfl)) rfl
theorem gw_3603 : (Cond.code ⟨"RelayHallModel", "total", "(I)I"⟩ prog_14_method_168_code 2 (some .int)) ∈ lw_G := x_gw (inT_15 _ (List.mem_of_getElem? (i := 3) rfl)) rfl
theorem gw_3604 : (Cond.constantLong "RelayHallLaw" 30 (4294967295)) ∈ lw_G := x_gw (inT_15 _ (List.mem_of_getElem? (i := 4) rfl)) rfl
theorem gw_3605 : (Cond.arrayClass .long) ∈ lw_G := x_gw (inT_15 _ (List.mem_of_getElem? (i := 5) rfl)) rfl
end XL
