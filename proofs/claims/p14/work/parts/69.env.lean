section XEnvA
theorem tw_293 : (Cond.instantiable "RelayHall" 21) ∈ lw_tbl := inT_1 _ (List.mem_of_getElem? (i := 53) rfl)
theorem tw_303 : (Cond.instantiable "RelayHall$Exchange" 8) ∈ lw_tbl := inT_1 _ (List.mem_of_getElem? (i := 63) rfl)
theorem tw_349 : (Cond.instantiable "java/util/ArrayList" 3) ∈ lw_tbl := inT_1 _ (List.mem_of_getElem? (i := 109) rfl)
theorem tw_375 : (Cond.instantiable "RelayHall$Log" 2) ∈ lw_tbl := inT_1 _ (List.mem_of_getElem? (i := 135) rfl)
theorem tw_392 : (Cond.instantiable "RelayHall$Reader" 4) ∈ lw_tbl := inT_1 _ (List.mem_of_getElem? (i := 152) rfl)
theorem tw_411 : (Cond.instantiable "java/lang/StringBuilder" 4) ∈ lw_tbl := inT_1 _ (List.mem_of_getElem? (i := 171) rfl)
theorem tw_442 : (Cond.instantiable "RelayHall$Connection" 14) ∈ lw_tbl := inT_1 _ (List.mem_of_getElem? (i := 202) rfl)
theorem tw_504 : (Cond.instantiable "RelayHall$Channel" 20) ∈ lw_tbl := inT_2 _ (List.mem_of_getElem? (i := 24) rfl)
theorem tw_899 : (Cond.instantiable "java/lang/String" 4) ∈ lw_tbl := inT_3 _ (List.mem_of_getElem? (i := 179) rfl)
theorem tw_1060 : (Cond.instantiable "RelayHall$Table" 4) ∈ lw_tbl := inT_4 _ (List.mem_of_getElem? (i := 100) rfl)
theorem tw_1151 : (Cond.instantiable "java/lang/IllegalArgumentException" 6) ∈ lw_tbl := inT_4 _ (List.mem_of_getElem? (i := 191) rfl)
theorem tw_1491 : (Cond.instantiable "java/lang/StringIndexOutOfBoundsException" 6) ∈ lw_tbl := inT_6 _ (List.mem_of_getElem? (i := 51) rfl)
theorem tw_1525 : (Cond.instantiable "java/lang/ArrayIndexOutOfBoundsException" 6) ∈ lw_tbl := inT_6 _ (List.mem_of_getElem? (i := 85) rfl)
theorem tw_1550 : (Cond.instantiable "RelayHall$Queue" 15) ∈ lw_tbl := inT_6 _ (List.mem_of_getElem? (i := 110) rfl)
theorem tw_1661 : (Cond.instantiable "RelayHall$Binding" 7) ∈ lw_tbl := inT_6 _ (List.mem_of_getElem? (i := 221) rfl)
theorem tw_1765 : (Cond.instantiable "RelayHall$Consumer" 7) ∈ lw_tbl := inT_7 _ (List.mem_of_getElem? (i := 85) rfl)
theorem tw_1821 : (Cond.instantiable "RelayHall$Message" 19) ∈ lw_tbl := inT_7 _ (List.mem_of_getElem? (i := 141) rfl)
theorem tw_1989 : (Cond.instantiable "java/lang/IndexOutOfBoundsException" 6) ∈ lw_tbl := inT_8 _ (List.mem_of_getElem? (i := 69) rfl)
theorem tw_2122 : (Cond.instantiable "java/lang/Integer" 1) ∈ lw_tbl := inT_8 _ (List.mem_of_getElem? (i := 202) rfl)
theorem tw_2251 : (Cond.instantiable "java/util/NoSuchElementException" 6) ∈ lw_tbl := inT_9 _ (List.mem_of_getElem? (i := 91) rfl)
theorem tw_2356 : (Cond.instantiable "RelayHallModel" 46) ∈ lw_tbl := inT_9 _ (List.mem_of_getElem? (i := 196) rfl)
theorem tw_2377 : (Cond.instantiable "RelayHallModel$Connection" 13) ∈ lw_tbl := inT_9 _ (List.mem_of_getElem? (i := 217) rfl)
theorem tw_2429 : (Cond.instantiable "RelayHallModel$Channel" 19) ∈ lw_tbl := inT_10 _ (List.mem_of_getElem? (i := 29) rfl)
theorem tw_2739 : (Cond.instantiable "RelayHallModel$Fact" 5) ∈ lw_tbl := inT_11 _ (List.mem_of_getElem? (i := 99) rfl)
theorem tw_2825 : (Cond.instantiable "RelayHallModel$Dead" 3) ∈ lw_tbl := inT_11 _ (List.mem_of_getElem? (i := 185) rfl)
theorem tw_2929 : (Cond.instantiable "RelayHallModel$Entry" 10) ∈ lw_tbl := inT_12 _ (List.mem_of_getElem? (i := 49) rfl)
theorem tw_2986 : (Cond.instantiable "RelayHallModel$Sent" 4) ∈ lw_tbl := inT_12 _ (List.mem_of_getElem? (i := 106) rfl)
theorem tw_3083 : (Cond.instantiable "RelayHallModel$Table" 6) ∈ lw_tbl := inT_12 _ (List.mem_of_getElem? (i := 203) rfl)
theorem tw_3144 : (Cond.instantiable "RelayHallModel$Exchange" 7) ∈ lw_tbl := inT_13 _ (List.mem_of_getElem? (i := 24) rfl)
theorem tw_3191 : (Cond.instantiable "RelayHallModel$Queue" 14) ∈ lw_tbl := inT_13 _ (List.mem_of_getElem? (i := 71) rfl)
theorem tw_3290 : (Cond.instantiable "RelayHallModel$Binding" 4) ∈ lw_tbl := inT_13 _ (List.mem_of_getElem? (i := 170) rfl)
theorem tw_3341 : (Cond.instantiable "RelayHallModel$Consumer" 6) ∈ lw_tbl := inT_13 _ (List.mem_of_getElem? (i := 221) rfl)
theorem tw_3378 : (Cond.instantiable "RelayHallModel$Content" 9) ∈ lw_tbl := inT_14 _ (List.mem_of_getElem? (i := 18) rfl)
theorem tw_3449 : (Cond.instantiable "RelayHallModel$Kept" 3) ∈ lw_tbl := inT_14 _ (List.mem_of_getElem? (i := 89) rfl)
theorem tw_347 : (Cond.arrayClass .byte) ∈ lw_tbl := inT_1 _ (List.mem_of_getElem? (i := 107) rfl)
theorem tw_600 : (Cond.arrayClass .int) ∈ lw_tbl := inT_2 _ (List.mem_of_getElem? (i := 120) rfl)
theorem tw_963 : (Cond.arrayClass .char) ∈ lw_tbl := inT_4 _ (List.mem_of_getElem? (i := 3) rfl)
theorem tw_2427 : (Cond.arrayClass .boolean) ∈ lw_tbl := inT_10 _ (List.mem_of_getElem? (i := 27) rfl)
theorem tw_3605 : (Cond.arrayClass .long) ∈ lw_tbl := inT_15 _ (List.mem_of_getElem? (i := 5) rfl)
theorem tw_301 : (Cond.arrayOver (.object "RelayHall$Connection")) ∈ lw_tbl := inT_1 _ (List.mem_of_getElem? (i := 61) rfl)
theorem tw_448 : (Cond.arrayOver (.object "RelayHall$Channel")) ∈ lw_tbl := inT_1 _ (List.mem_of_getElem? (i := 208) rfl)
theorem tw_513 : (Cond.arrayOver (.object "RelayHall$Message")) ∈ lw_tbl := inT_2 _ (List.mem_of_getElem? (i := 33) rfl)
theorem tw_822 : (Cond.arrayOver (.object "java/lang/Object")) ∈ lw_tbl := inT_3 _ (List.mem_of_getElem? (i := 102) rfl)
theorem tw_2362 : (Cond.arrayOver (.object "RelayHallModel$Connection")) ∈ lw_tbl := inT_9 _ (List.mem_of_getElem? (i := 202) rfl)
theorem tw_2364 : (Cond.arrayOver (.object "RelayHallModel$Exchange")) ∈ lw_tbl := inT_9 _ (List.mem_of_getElem? (i := 204) rfl)
theorem tw_2366 : (Cond.arrayOver (.object "RelayHallModel$Queue")) ∈ lw_tbl := inT_9 _ (List.mem_of_getElem? (i := 206) rfl)
theorem tw_2368 : (Cond.arrayOver (.object "RelayHallModel$Binding")) ∈ lw_tbl := inT_9 _ (List.mem_of_getElem? (i := 208) rfl)
theorem tw_2370 : (Cond.arrayOver (.object "RelayHallModel$Consumer")) ∈ lw_tbl := inT_9 _ (List.mem_of_getElem? (i := 210) rfl)
theorem tw_2372 : (Cond.arrayOver (.object "RelayHallModel$Dead")) ∈ lw_tbl := inT_9 _ (List.mem_of_getElem? (i := 212) rfl)
theorem tw_2374 : (Cond.arrayOver (.object "RelayHallModel$Fact")) ∈ lw_tbl := inT_9 _ (List.mem_of_getElem? (i := 214) rfl)
theorem tw_2376 : (Cond.arrayOver (.object "RelayHallModel$Entry")) ∈ lw_tbl := inT_9 _ (List.mem_of_getElem? (i := 216) rfl)
theorem tw_2383 : (Cond.arrayOver (.object "RelayHallModel$Channel")) ∈ lw_tbl := inT_9 _ (List.mem_of_getElem? (i := 223) rfl)
theorem tw_2435 : (Cond.arrayOver (.object "RelayHallModel$Sent")) ∈ lw_tbl := inT_10 _ (List.mem_of_getElem? (i := 35) rfl)
theorem tw_2437 : (Cond.arrayOver (.object "RelayHallModel$Kept")) ∈ lw_tbl := inT_10 _ (List.mem_of_getElem? (i := 37) rfl)
theorem tw_3089 : (Cond.arrayOver (.array .byte)) ∈ lw_tbl := inT_12 _ (List.mem_of_getElem? (i := 209) rfl)
theorem tw_308 : (Cond.methodLinkNest "RelayHall$Exchange" 3 ⟨"RelayHall$Durable", "<init>", "()V"⟩ "RelayHall") ∈ lw_tbl := inT_1 _ (List.mem_of_getElem? (i := 68) rfl)
theorem tw_376 : (Cond.methodLinkNest "RelayHall" 61 ⟨"RelayHall$Log", "<init>", "()V"⟩ "RelayHall") ∈ lw_tbl := inT_1 _ (List.mem_of_getElem? (i := 136) rfl)
theorem tw_393 : (Cond.methodLinkNest "RelayHall" 68 ⟨"RelayHall$Reader", "<init>", "()V"⟩ "RelayHall") ∈ lw_tbl := inT_1 _ (List.mem_of_getElem? (i := 153) rfl)
theorem tw_443 : (Cond.methodLinkNest "RelayHall" 101 ⟨"RelayHall$Connection", "<init>", "()V"⟩ "RelayHall") ∈ lw_tbl := inT_1 _ (List.mem_of_getElem? (i := 203) rfl)
theorem tw_688 : (Cond.fieldLinkNest "RelayHall$Connection" 63 "RelayHall" "GREETING_BYTES" "[I" "RelayHall") ∈ lw_tbl := inT_2 _ (List.mem_of_getElem? (i := 208) rfl)
theorem tw_1152 : (Cond.castable "java/lang/IllegalArgumentException" "java/lang/IllegalArgumentException") ∈ lw_tbl := inT_4 _ (List.mem_of_getElem? (i := 192) rfl)
theorem tw_1153 : (Cond.declares ⟨"java/lang/RuntimeException", "<init>", "()V"⟩) ∈ lw_tbl := inT_4 _ (List.mem_of_getElem? (i := 193) rfl)
theorem tw_1154 : (Cond.declares ⟨"java/lang/RuntimeException", "<init>", "(Ljava/lang/String;)V"⟩) ∈ lw_tbl := inT_4 _ (List.mem_of_getElem? (i := 194) rfl)
theorem tw_1155 : (Cond.declares ⟨"java/lang/Exception", "<init>", "()V"⟩) ∈ lw_tbl := inT_4 _ (List.mem_of_getElem? (i := 195) rfl)
theorem tw_1156 : (Cond.declares ⟨"java/lang/Exception", "<init>", "(Ljava/lang/String;)V"⟩) ∈ lw_tbl := inT_4 _ (List.mem_of_getElem? (i := 196) rfl)
theorem tw_1157 : (Cond.declares ⟨"java/lang/Throwable", "<init>", "()V"⟩) ∈ lw_tbl := inT_4 _ (List.mem_of_getElem? (i := 197) rfl)
theorem tw_1158 : (Cond.declares ⟨"java/lang/Throwable", "<init>", "(Ljava/lang/String;)V"⟩) ∈ lw_tbl := inT_4 _ (List.mem_of_getElem? (i := 198) rfl)
theorem tw_1223 : (Cond.castable "[B" "java/lang/Cloneable") ∈ lw_tbl := inT_5 _ (List.mem_of_getElem? (i := 23) rfl)
theorem tw_1554 : (Cond.methodLinkNest "RelayHall$Queue" 3 ⟨"RelayHall$Durable", "<init>", "()V"⟩ "RelayHall") ∈ lw_tbl := inT_6 _ (List.mem_of_getElem? (i := 114) rfl)
theorem tw_1640 : (Cond.methodLinkNest "RelayHall$Queue" 81 ⟨"RelayHall", "sameText", "(Ljava/lang/String;Ljava/lang/String;)Z"⟩ "RelayHall") ∈ lw_tbl := inT_6 _ (List.mem_of_getElem? (i := 200) rfl)
theorem tw_1665 : (Cond.methodLinkNest "RelayHall$Binding" 3 ⟨"RelayHall$Durable", "<init>", "()V"⟩ "RelayHall") ∈ lw_tbl := inT_6 _ (List.mem_of_getElem? (i := 225) rfl)
theorem tw_1670 : (Cond.methodLinkNest "RelayHall$Binding" 45 ⟨"RelayHall", "sameText", "(Ljava/lang/String;Ljava/lang/String;)Z"⟩ "RelayHall") ∈ lw_tbl := inT_6 _ (List.mem_of_getElem? (i := 230) rfl)
theorem tw_1825 : (Cond.methodLinkNest "RelayHall$Message" 3 ⟨"RelayHall$Durable", "<init>", "()V"⟩ "RelayHall") ∈ lw_tbl := inT_7 _ (List.mem_of_getElem? (i := 145) rfl)
theorem tw_1990 : (Cond.castable "java/lang/IndexOutOfBoundsException" "java/lang/IndexOutOfBoundsException") ∈ lw_tbl := inT_8 _ (List.mem_of_getElem? (i := 70) rfl)
theorem tw_2252 : (Cond.castable "java/util/NoSuchElementException" "java/util/NoSuchElementException") ∈ lw_tbl := inT_9 _ (List.mem_of_getElem? (i := 92) rfl)
theorem tw_2378 : (Cond.methodLinkNest "RelayHallModel" 99 ⟨"RelayHallModel$Connection", "<init>", "()V"⟩ "RelayHallModel") ∈ lw_tbl := inT_9 _ (List.mem_of_getElem? (i := 218) rfl)
theorem tw_2430 : (Cond.methodLinkNest "RelayHallModel" 106 ⟨"RelayHallModel$Channel", "<init>", "()V"⟩ "RelayHallModel") ∈ lw_tbl := inT_10 _ (List.mem_of_getElem? (i := 30) rfl)
theorem tw_2740 : (Cond.methodLinkNest "RelayHallModel" 400 ⟨"RelayHallModel$Fact", "<init>", "()V"⟩ "RelayHallModel") ∈ lw_tbl := inT_11 _ (List.mem_of_getElem? (i := 100) rfl)
theorem tw_2826 : (Cond.methodLinkNest "RelayHallModel" 533 ⟨"RelayHallModel$Dead", "<init>", "()V"⟩ "RelayHallModel") ∈ lw_tbl := inT_11 _ (List.mem_of_getElem? (i := 186) rfl)
theorem tw_2930 : (Cond.methodLinkNest "RelayHallModel" 556 ⟨"RelayHallModel$Entry", "<init>", "()V"⟩ "RelayHallModel") ∈ lw_tbl := inT_12 _ (List.mem_of_getElem? (i := 50) rfl)
theorem tw_2987 : (Cond.methodLinkNest "RelayHallModel" 685 ⟨"RelayHallModel$Sent", "<init>", "()V"⟩ "RelayHallModel") ∈ lw_tbl := inT_12 _ (List.mem_of_getElem? (i := 107) rfl)
theorem tw_3084 : (Cond.methodLinkNest "RelayHallModel" 145 ⟨"RelayHallModel$Table", "<init>", "()V"⟩ "RelayHallModel") ∈ lw_tbl := inT_12 _ (List.mem_of_getElem? (i := 204) rfl)
theorem tw_3145 : (Cond.methodLinkNest "RelayHallModel" 755 ⟨"RelayHallModel$Exchange", "<init>", "()V"⟩ "RelayHallModel") ∈ lw_tbl := inT_13 _ (List.mem_of_getElem? (i := 25) rfl)
theorem tw_3192 : (Cond.methodLinkNest "RelayHallModel" 756 ⟨"RelayHallModel$Queue", "<init>", "()V"⟩ "RelayHallModel") ∈ lw_tbl := inT_13 _ (List.mem_of_getElem? (i := 72) rfl)
theorem tw_3291 : (Cond.methodLinkNest "RelayHallModel" 814 ⟨"RelayHallModel$Binding", "<init>", "()V"⟩ "RelayHallModel") ∈ lw_tbl := inT_13 _ (List.mem_of_getElem? (i := 171) rfl)
theorem tw_3342 : (Cond.methodLinkNest "RelayHallModel" 825 ⟨"RelayHallModel$Consumer", "<init>", "()V"⟩ "RelayHallModel") ∈ lw_tbl := inT_13 _ (List.mem_of_getElem? (i := 222) rfl)
theorem tw_3379 : (Cond.methodLinkNest "RelayHallModel" 830 ⟨"RelayHallModel$Content", "<init>", "()V"⟩ "RelayHallModel") ∈ lw_tbl := inT_14 _ (List.mem_of_getElem? (i := 19) rfl)
theorem tw_3450 : (Cond.methodLinkNest "RelayHallModel" 861 ⟨"RelayHallModel$Kept", "<init>", "()V"⟩ "RelayHallModel") ∈ lw_tbl := inT_14 _ (List.mem_of_getElem? (i := 90) rfl)
theorem tw_3616 : (Cond.castable "java/lang/ArrayIndexOutOfBoundsException" "java/lang/IndexOutOfBoundsException") ∈ lw_tbl := inT_15 _ (List.mem_of_getElem? (i := 16) rfl)
theorem tw_3617 : (Cond.castable "java/lang/StringIndexOutOfBoundsException" "java/lang/IndexOutOfBoundsException") ∈ lw_tbl := inT_15 _ (List.mem_of_getElem? (i := 17) rfl)
theorem tw_3618 : (Cond.castable "RelayHall$Exchange" "RelayHall$Exchange") ∈ lw_tbl := inT_15 _ (List.mem_of_getElem? (i := 18) rfl)
theorem tw_3619 : (Cond.castable "RelayHall$Binding" "RelayHall$Binding") ∈ lw_tbl := inT_15 _ (List.mem_of_getElem? (i := 19) rfl)
theorem tw_3620 : (Cond.castable "RelayHall$Queue" "RelayHall$Queue") ∈ lw_tbl := inT_15 _ (List.mem_of_getElem? (i := 20) rfl)
theorem tw_3621 : (Cond.castable "RelayHall$Consumer" "RelayHall$Consumer") ∈ lw_tbl := inT_15 _ (List.mem_of_getElem? (i := 21) rfl)
theorem tw_3622 : (Cond.castable "RelayHall$Message" "RelayHall$Message") ∈ lw_tbl := inT_15 _ (List.mem_of_getElem? (i := 22) rfl)
theorem tw_3623 : (Cond.castable "RelayHall$Channel" "RelayHall$Channel") ∈ lw_tbl := inT_15 _ (List.mem_of_getElem? (i := 23) rfl)
theorem tw_3624 : (Cond.castable "RelayHall$Binding" "RelayHall$Durable") ∈ lw_tbl := inT_15 _ (List.mem_of_getElem? (i := 24) rfl)
theorem tw_3625 : (Cond.castable "RelayHall$Exchange" "RelayHall$Durable") ∈ lw_tbl := inT_15 _ (List.mem_of_getElem? (i := 25) rfl)
theorem tw_3626 : (Cond.castable "RelayHall$Message" "RelayHall$Durable") ∈ lw_tbl := inT_15 _ (List.mem_of_getElem? (i := 26) rfl)
theorem tw_3627 : (Cond.castable "RelayHall$Queue" "RelayHall$Durable") ∈ lw_tbl := inT_15 _ (List.mem_of_getElem? (i := 27) rfl)
theorem tw_3630 : (Cond.declares ⟨"java/lang/Object", "getClass", "()Ljava/lang/Class;"⟩) ∈ lw_tbl := inT_15 _ (List.mem_of_getElem? (i := 30) rfl)
theorem tw_3631 : (Cond.castable "RelayHall" "java/lang/Object") ∈ lw_tbl := inT_15 _ (List.mem_of_getElem? (i := 31) rfl)
theorem tw_3632 : (Cond.castable "RelayHall$Exchange" "java/lang/Object") ∈ lw_tbl := inT_15 _ (List.mem_of_getElem? (i := 32) rfl)
theorem tw_3633 : (Cond.castable "RelayHall$Log" "java/lang/Object") ∈ lw_tbl := inT_15 _ (List.mem_of_getElem? (i := 33) rfl)
theorem tw_3634 : (Cond.castable "RelayHall$Reader" "java/lang/Object") ∈ lw_tbl := inT_15 _ (List.mem_of_getElem? (i := 34) rfl)
theorem tw_3635 : (Cond.castable "RelayHall$Connection" "java/lang/Object") ∈ lw_tbl := inT_15 _ (List.mem_of_getElem? (i := 35) rfl)
theorem tw_3636 : (Cond.castable "RelayHall$Channel" "java/lang/Object") ∈ lw_tbl := inT_15 _ (List.mem_of_getElem? (i := 36) rfl)
theorem tw_3637 : (Cond.castable "RelayHallModel" "java/lang/Object") ∈ lw_tbl := inT_15 _ (List.mem_of_getElem? (i := 37) rfl)
theorem tw_3638 : (Cond.castable "RelayHallModel$Connection" "java/lang/Object") ∈ lw_tbl := inT_15 _ (List.mem_of_getElem? (i := 38) rfl)
theorem tw_3639 : (Cond.castable "RelayHallModel$Channel" "java/lang/Object") ∈ lw_tbl := inT_15 _ (List.mem_of_getElem? (i := 39) rfl)
theorem tw_3640 : (Cond.castable "java/lang/String" "java/lang/Object") ∈ lw_tbl := inT_15 _ (List.mem_of_getElem? (i := 40) rfl)
theorem tw_3641 : (Cond.castable "RelayHall$Table" "java/lang/Object") ∈ lw_tbl := inT_15 _ (List.mem_of_getElem? (i := 41) rfl)
theorem tw_3642 : (Cond.castable "RelayHall$Queue" "java/lang/Object") ∈ lw_tbl := inT_15 _ (List.mem_of_getElem? (i := 42) rfl)
theorem tw_3643 : (Cond.castable "RelayHall$Binding" "java/lang/Object") ∈ lw_tbl := inT_15 _ (List.mem_of_getElem? (i := 43) rfl)
theorem tw_3644 : (Cond.castable "RelayHall$Consumer" "java/lang/Object") ∈ lw_tbl := inT_15 _ (List.mem_of_getElem? (i := 44) rfl)
theorem tw_3645 : (Cond.castable "RelayHall$Message" "java/lang/Object") ∈ lw_tbl := inT_15 _ (List.mem_of_getElem? (i := 45) rfl)
theorem tw_3646 : (Cond.castable "java/lang/Integer" "java/lang/Object") ∈ lw_tbl := inT_15 _ (List.mem_of_getElem? (i := 46) rfl)
theorem tw_3647 : (Cond.castable "RelayHallModel$Fact" "java/lang/Object") ∈ lw_tbl := inT_15 _ (List.mem_of_getElem? (i := 47) rfl)
theorem tw_3648 : (Cond.castable "RelayHallModel$Dead" "java/lang/Object") ∈ lw_tbl := inT_15 _ (List.mem_of_getElem? (i := 48) rfl)
theorem tw_3649 : (Cond.castable "RelayHallModel$Entry" "java/lang/Object") ∈ lw_tbl := inT_15 _ (List.mem_of_getElem? (i := 49) rfl)
theorem tw_3650 : (Cond.castable "RelayHallModel$Sent" "java/lang/Object") ∈ lw_tbl := inT_15 _ (List.mem_of_getElem? (i := 50) rfl)
theorem tw_3651 : (Cond.castable "RelayHallModel$Table" "java/lang/Object") ∈ lw_tbl := inT_15 _ (List.mem_of_getElem? (i := 51) rfl)
theorem tw_3652 : (Cond.castable "RelayHallModel$Exchange" "java/lang/Object") ∈ lw_tbl := inT_15 _ (List.mem_of_getElem? (i := 52) rfl)
theorem tw_3653 : (Cond.castable "RelayHallModel$Queue" "java/lang/Object") ∈ lw_tbl := inT_15 _ (List.mem_of_getElem? (i := 53) rfl)
theorem tw_3654 : (Cond.castable "RelayHallModel$Binding" "java/lang/Object") ∈ lw_tbl := inT_15 _ (List.mem_of_getElem? (i := 54) rfl)
theorem tw_3655 : (Cond.castable "RelayHallModel$Consumer" "java/lang/Object") ∈ lw_tbl := inT_15 _ (List.mem_of_getElem? (i := 55) rfl)
theorem tw_3656 : (Cond.castable "RelayHallModel$Content" "java/lang/Object") ∈ lw_tbl := inT_15 _ (List.mem_of_getElem? (i := 56) rfl)
theorem tw_3657 : (Cond.castable "RelayHallModel$Kept" "java/lang/Object") ∈ lw_tbl := inT_15 _ (List.mem_of_getElem? (i := 57) rfl)
theorem tw_304 : (Cond.stringRef "RelayHall" 25 "") ∈ lw_tbl := inT_1 _ (List.mem_of_getElem? (i := 64) rfl)
theorem tw_509 : (Cond.stringRef "RelayHall$Channel" 37 "") ∈ lw_tbl := inT_2 _ (List.mem_of_getElem? (i := 29) rfl)
theorem tw_897 : (Cond.stringRef "RelayHall$Reader" 30 "") ∈ lw_tbl := inT_3 _ (List.mem_of_getElem? (i := 177) rfl)
theorem tw_907 : (Cond.stringRef "java/lang/String" 7 "") ∈ lw_tbl := inT_3 _ (List.mem_of_getElem? (i := 187) rfl)
theorem tw_1139 : (Cond.stringRef "java/lang/StringLatin1" 151 "") ∈ lw_tbl := inT_4 _ (List.mem_of_getElem? (i := 179) rfl)
theorem tw_1351 : (Cond.stringRef "java/lang/StringUTF16" 295 "") ∈ lw_tbl := inT_5 _ (List.mem_of_getElem? (i := 151) rfl)
theorem tw_361 : (Cond.laysStatic "java/util/ArrayList" "DEFAULTCAPACITY_EMPTY_ELEMENTDATA" "[Ljava/lang/Object;") ∈ lw_tbl := inT_1 _ (List.mem_of_getElem? (i := 121) rfl)
theorem tw_246 : (Cond.initialized "java/util/ArrayList") ∈ lw_tbl := inT_1 _ (List.mem_of_getElem? (i := 6) rfl)
theorem tw_420 : (Cond.laysStatic "java/lang/String" "COMPACT_STRINGS" "Z") ∈ lw_tbl := inT_1 _ (List.mem_of_getElem? (i := 180) rfl)
theorem tw_251 : (Cond.initialized "java/lang/String") ∈ lw_tbl := inT_1 _ (List.mem_of_getElem? (i := 11) rfl)
theorem tw_689 : (Cond.laysStatic "RelayHall" "GREETING_BYTES" "[I") ∈ lw_tbl := inT_2 _ (List.mem_of_getElem? (i := 209) rfl)
theorem tw_241 : (Cond.initialized "RelayHall") ∈ lw_tbl := inT_1 _ (List.mem_of_getElem? (i := 1) rfl)
theorem tw_2666 : (Cond.laysStatic "RelayHallModel" "GREETS" "[B") ∈ lw_tbl := inT_11 _ (List.mem_of_getElem? (i := 26) rfl)
theorem tw_255 : (Cond.initialized "RelayHallModel") ∈ lw_tbl := inT_1 _ (List.mem_of_getElem? (i := 15) rfl)
theorem tw_3041 : (Cond.laysStatic "RelayHallModel" "EMPTY" "[B") ∈ lw_tbl := inT_12 _ (List.mem_of_getElem? (i := 161) rfl)
theorem tw_944 : (Cond.laysStatic "jdk/internal/util/Preconditions" "SIOOBE_FORMATTER" "Ljava/util/function/BiFunction;") ∈ lw_tbl := inT_3 _ (List.mem_of_getElem? (i := 224) rfl)
theorem tw_262 : (Cond.initialized "jdk/internal/util/Preconditions") ∈ lw_tbl := inT_1 _ (List.mem_of_getElem? (i := 22) rfl)
theorem tw_954 : (Cond.laysFinal "java/lang/String" "java/lang/String" "value" "[B") ∈ lw_tbl := inT_3 _ (List.mem_of_getElem? (i := 234) rfl)
theorem tw_956 : (Cond.laysFinal "java/lang/String" "java/lang/String" "coder" "B") ∈ lw_tbl := inT_3 _ (List.mem_of_getElem? (i := 236) rfl)
theorem x_kn {s : State} {args : Array Value} {C : String} {T : u_T} {N n : Nat} (hts : ∀ w ∈ lw_tbl, w.before args s = true) (hin : ∀ w ∈ u_ws C T N, w ∈ lw_tbl) (hm : Cond.instantiable C n ∈ lw_tbl) : ∃ (cC : ClassId) (iS : Nat → Nat), u_Kn s C T N cC iS := u_known hts hin (hts _ hm)
theorem x_arrP {s : State} {args : Array Value} {ty : FieldType} (h : (Cond.arrayClass ty).before args s = true) (hr : ∀ c : ClassId, s.vm.findClass ("[" ++ ty.toString) = some c → va_RA s c ty) : ∃ cA : ClassId, ArrOfT s cA ty ∧ va_RA s cA ty := by
  obtain ⟨c, k, comp, h1, h2, h3⟩ := Cond.arrayClass_spec (args := args) (first := s) (o := none) (s := s) (idx := []) h
  exact ⟨c, fun n z => ⟨fun k h => (by cases h), k, h2, comp, h3⟩, hr c h1⟩
theorem x_arrO {s : State} {args : Array Value} {C : String} (h : (Cond.arrayOver (.object C)).before args s = true) : ∃ cA : ClassId, ArrOfT s cA (.object C) ∧ va_RA s cA (.object C) := by
  obtain ⟨comp, c, k, h1, -, h2, h3, h4⟩ := Cond.arrayOver_spec (args := args) (first := s) (o := none) (s := s) (idx := []) h
  exact ⟨c, fun n z => ⟨fun k h => (by cases h), k, h2, comp, h3⟩, k, comp, h2, h3, h1, h4⟩
theorem x_arrA {s : State} {args : Array Value} {t : FieldType} (h : (Cond.arrayOver (.array t)).before args s = true) : ∃ cA : ClassId, ArrOfT s cA (.array t) ∧ va_RA s cA (.array t) := by
  obtain ⟨comp, c, k, h1, -, h2, h3, h4⟩ := arrayOverA_spec h
  exact ⟨c, fun n z => ⟨fun k h => (by cases h), k, h2, comp, h3⟩, h4⟩
theorem x_Tc {s : State} {ty : FieldType} {t N : Nat} {f : Nat → Value} {A : Nat → Prop} {cell : Cell} {k : Class} {comp : ClassId} (h1 : s.heap[t]? = some cell) (hv : cell.vm = .none) (h2 : s.vm.classes[cell.cls]? = some k) (h3 : k.kind = .array comp ty) (h4 : cell.slots.size = N) (h5 : ∀ j, j < N → cell.slots[j]? = some (f j)) (hA : ¬ A t) : va_T ty t N f A s s.heap :=
  ⟨cell, h1, ⟨fun q h => (by rw [hv] at h; cases h), k, h2, comp, h3⟩, fun h => (by rw [hv] at h; cases h), (by rw [h4]; exact Nat.le_refl _), (by rw [h4]), h5, hA⟩
theorem x_OFof {args : Array Value} {s : State} {t : Term} {C o n d : String} {v : Value} {a : Nat} {A : Nat → Prop} (hl : (Cond.lays C o n d).before args s = true ∨ (Cond.laysFinal C o n d).before args s = true) (ht : t.eval args s none [] s = some (.ref a)) (hv : (Term.field t o n d).eval args s none [] s = some v) (hA : ∀ a : Nat, a < s.heap.size → ¬ A a) : va_OF o n d v a A s s.heap := by
  have hi : ∃ r, s.fieldFound? o n d = some r := by
    rcases hl with hl | hl
    all_goals
      simp only [Cond.before, Cond.holds, Cond.value] at hl
      cases hf : s.fieldFound? o n d with
      | some r => exact ⟨r, rfl⟩
      | none =>
        rw [hf] at hl
        cases hc : s.vm.findClass C <;> (rw [hc] at hl; simp at hl)
  obtain ⟨⟨cf, k, i, f⟩, hi⟩ := hi
  obtain ⟨h1, cell, h2, h3, -, -, h4⟩ := Term.field_spec hi ht hv
  exact ⟨cf, k, i, f, cell, hi, h1, h2, h3, h4, hA a (Array.getElem?_eq_some_iff.mp h2).1⟩
set_option maxRecDepth 20000 in
set_option maxHeartbeats 4000000 in
theorem x_e_hcl {s : State} {b : Nat} (hts : ∀ w ∈ lw_tbl, w.before #[Value.ref b] s = true) : ∀ z ∈ x_cl0, ∃ (cC : ClassId) (iS : Nat → Nat), u_Kn s z.1 z.2.1 z.2.2 cC iS := (List.forall_mem_cons.mpr ⟨x_kn hts (fun w h => (List.mem_filter.mp (xws_0 w h)).1) tw_293,
  (List.forall_mem_cons.mpr ⟨x_kn hts (fun w h => (List.mem_filter.mp (xws_1 w h)).1) tw_303,
  (List.forall_mem_cons.mpr ⟨x_kn hts (fun w h => (List.mem_filter.mp (xws_2 w h)).1) tw_349,
  (List.forall_mem_cons.mpr ⟨x_kn hts (fun w h => (List.mem_filter.mp (xws_3 w h)).1) tw_375,
  (List.forall_mem_cons.mpr ⟨x_kn hts (fun w h => (List.mem_filter.mp (xws_4 w h)).1) tw_392,
  (List.forall_mem_cons.mpr ⟨x_kn hts (fun w h => (List.mem_filter.mp (xws_5 w h)).1) tw_411,
  (List.forall_mem_cons.mpr ⟨x_kn hts (fun w h => (List.mem_filter.mp (xws_6 w h)).1) tw_442,
  (List.forall_mem_cons.mpr ⟨x_kn hts (fun w h => (List.mem_filter.mp (xws_7 w h)).1) tw_504,
  (List.forall_mem_cons.mpr ⟨x_kn hts (fun w h => (List.mem_filter.mp (xws_8 w h)).1) tw_899,
  (List.forall_mem_cons.mpr ⟨x_kn hts (fun w h => (List.mem_filter.mp (xws_9 w h)).1) tw_1060,
  (List.forall_mem_cons.mpr ⟨x_kn hts (fun w h => (List.mem_filter.mp (xws_10 w h)).1) tw_1151,
  (List.forall_mem_cons.mpr ⟨x_kn hts (fun w h => (List.mem_filter.mp (xws_11 w h)).1) tw_1491,
  (List.forall_mem_cons.mpr ⟨x_kn hts (fun w h => (List.mem_filter.mp (xws_12 w h)).1) tw_1525,
  (List.forall_mem_cons.mpr ⟨x_kn hts (fun w h => (List.mem_filter.mp (xws_13 w h)).1) tw_1550,
  (List.forall_mem_cons.mpr ⟨x_kn hts (fun w h => (List.mem_filter.mp (xws_14 w h)).1) tw_1661,
  (List.forall_mem_cons.mpr ⟨x_kn hts (fun w h => (List.mem_filter.mp (xws_15 w h)).1) tw_1765,
  (List.forall_mem_cons.mpr ⟨x_kn hts (fun w h => (List.mem_filter.mp (xws_16 w h)).1) tw_1821,
  (List.forall_mem_cons.mpr ⟨x_kn hts (fun w h => (List.mem_filter.mp (xws_17 w h)).1) tw_1989,
  (List.forall_mem_cons.mpr ⟨x_kn hts (fun w h => (List.mem_filter.mp (xws_18 w h)).1) tw_2122,
  (List.forall_mem_cons.mpr ⟨x_kn hts (fun w h => (List.mem_filter.mp (xws_19 w h)).1) tw_2251,
  (List.forall_mem_cons.mpr ⟨x_kn hts (fun w h => (List.mem_filter.mp (xws_20 w h)).1) tw_2356,
  (List.forall_mem_cons.mpr ⟨x_kn hts (fun w h => (List.mem_filter.mp (xws_21 w h)).1) tw_2377,
  (List.forall_mem_cons.mpr ⟨x_kn hts (fun w h => (List.mem_filter.mp (xws_22 w h)).1) tw_2429,
  (List.forall_mem_cons.mpr ⟨x_kn hts (fun w h => (List.mem_filter.mp (xws_23 w h)).1) tw_2739,
  (List.forall_mem_cons.mpr ⟨x_kn hts (fun w h => (List.mem_filter.mp (xws_24 w h)).1) tw_2825,
  (List.forall_mem_cons.mpr ⟨x_kn hts (fun w h => (List.mem_filter.mp (xws_25 w h)).1) tw_2929,
  (List.forall_mem_cons.mpr ⟨x_kn hts (fun w h => (List.mem_filter.mp (xws_26 w h)).1) tw_2986,
  (List.forall_mem_cons.mpr ⟨x_kn hts (fun w h => (List.mem_filter.mp (xws_27 w h)).1) tw_3083,
  (List.forall_mem_cons.mpr ⟨x_kn hts (fun w h => (List.mem_filter.mp (xws_28 w h)).1) tw_3144,
  (List.forall_mem_cons.mpr ⟨x_kn hts (fun w h => (List.mem_filter.mp (xws_29 w h)).1) tw_3191,
  (List.forall_mem_cons.mpr ⟨x_kn hts (fun w h => (List.mem_filter.mp (xws_30 w h)).1) tw_3290,
  (List.forall_mem_cons.mpr ⟨x_kn hts (fun w h => (List.mem_filter.mp (xws_31 w h)).1) tw_3341,
  (List.forall_mem_cons.mpr ⟨x_kn hts (fun w h => (List.mem_filter.mp (xws_32 w h)).1) tw_3378,
  (List.forall_mem_cons.mpr ⟨x_kn hts (fun w h => (List.mem_filter.mp (xws_33 w h)).1) tw_3449,
  (List.forall_mem_cons.mpr ⟨x_kn hts (fun _ h => absurd h List.not_mem_nil) tw_1989,
  (List.forall_mem_cons.mpr ⟨x_kn hts (fun _ h => absurd h List.not_mem_nil) tw_2251,
  (List.forall_mem_cons.mpr ⟨x_kn hts (fun _ h => absurd h List.not_mem_nil) tw_1151,
  (fun _ h => absurd h List.not_mem_nil)⟩)⟩)⟩)⟩)⟩)⟩)⟩)⟩)⟩)⟩)⟩)⟩)⟩)⟩)⟩)⟩)⟩)⟩)⟩)⟩)⟩)⟩)⟩)⟩)⟩)⟩)⟩)⟩)⟩)⟩)⟩)⟩)⟩)⟩)⟩)⟩)⟩)
set_option maxRecDepth 20000 in
set_option maxHeartbeats 4000000 in
theorem x_e_hty {s : State} {b : Nat} (hts : ∀ w ∈ lw_tbl, w.before #[Value.ref b] s = true) : ∀ ty ∈ x_tl0, ∃ cA : ClassId, ArrOfT s cA ty ∧ va_RA s cA ty := (List.forall_mem_cons.mpr ⟨x_arrP (hts _ tw_347) (fun _ h => h),
  (List.forall_mem_cons.mpr ⟨x_arrP (hts _ tw_600) (fun _ h => h),
  (List.forall_mem_cons.mpr ⟨x_arrP (hts _ tw_963) (fun _ h => h),
  (List.forall_mem_cons.mpr ⟨x_arrP (hts _ tw_2427) (fun _ h => h),
  (List.forall_mem_cons.mpr ⟨x_arrP (hts _ tw_3605) (fun _ h => h),
  (List.forall_mem_cons.mpr ⟨x_arrO (hts _ tw_301),
  (List.forall_mem_cons.mpr ⟨x_arrO (hts _ tw_448),
  (List.forall_mem_cons.mpr ⟨x_arrO (hts _ tw_513),
  (List.forall_mem_cons.mpr ⟨x_arrO (hts _ tw_822),
  (List.forall_mem_cons.mpr ⟨x_arrO (hts _ tw_2362),
  (List.forall_mem_cons.mpr ⟨x_arrO (hts _ tw_2364),
  (List.forall_mem_cons.mpr ⟨x_arrO (hts _ tw_2366),
  (List.forall_mem_cons.mpr ⟨x_arrO (hts _ tw_2368),
  (List.forall_mem_cons.mpr ⟨x_arrO (hts _ tw_2370),
  (List.forall_mem_cons.mpr ⟨x_arrO (hts _ tw_2372),
  (List.forall_mem_cons.mpr ⟨x_arrO (hts _ tw_2374),
  (List.forall_mem_cons.mpr ⟨x_arrO (hts _ tw_2376),
  (List.forall_mem_cons.mpr ⟨x_arrO (hts _ tw_2383),
  (List.forall_mem_cons.mpr ⟨x_arrO (hts _ tw_2435),
  (List.forall_mem_cons.mpr ⟨x_arrO (hts _ tw_2437),
  (List.forall_mem_cons.mpr ⟨x_arrA (hts _ tw_3089),
  (fun _ h => absurd h List.not_mem_nil)⟩)⟩)⟩)⟩)⟩)⟩)⟩)⟩)⟩)⟩)⟩)⟩)⟩)⟩)⟩)⟩)⟩)⟩)⟩)⟩)⟩)
set_option maxRecDepth 20000 in
set_option maxHeartbeats 4000000 in
theorem x_e_hns {s : State} {b : Nat} (hts : ∀ w ∈ lw_tbl, w.before #[Value.ref b] s = true) : ∀ w ∈ x_n0, x_nest w = true ∧ va_Nw w s := (List.forall_mem_cons.mpr ⟨⟨rfl, va_Nw.of rfl (hts _ tw_308)⟩,
  (List.forall_mem_cons.mpr ⟨⟨rfl, va_Nw.of rfl (hts _ tw_376)⟩,
  (List.forall_mem_cons.mpr ⟨⟨rfl, va_Nw.of rfl (hts _ tw_393)⟩,
  (List.forall_mem_cons.mpr ⟨⟨rfl, va_Nw.of rfl (hts _ tw_443)⟩,
  (List.forall_mem_cons.mpr ⟨⟨rfl, va_Nw.of rfl (hts _ tw_688)⟩,
  (List.forall_mem_cons.mpr ⟨⟨rfl, va_Nw.of rfl (hts _ tw_1152)⟩,
  (List.forall_mem_cons.mpr ⟨⟨rfl, va_Nw.of rfl (hts _ tw_1153)⟩,
  (List.forall_mem_cons.mpr ⟨⟨rfl, va_Nw.of rfl (hts _ tw_1154)⟩,
  (List.forall_mem_cons.mpr ⟨⟨rfl, va_Nw.of rfl (hts _ tw_1155)⟩,
  (List.forall_mem_cons.mpr ⟨⟨rfl, va_Nw.of rfl (hts _ tw_1156)⟩,
  (List.forall_mem_cons.mpr ⟨⟨rfl, va_Nw.of rfl (hts _ tw_1157)⟩,
  (List.forall_mem_cons.mpr ⟨⟨rfl, va_Nw.of rfl (hts _ tw_1158)⟩,
  (List.forall_mem_cons.mpr ⟨⟨rfl, va_Nw.of rfl (hts _ tw_1223)⟩,
  (List.forall_mem_cons.mpr ⟨⟨rfl, va_Nw.of rfl (hts _ tw_1554)⟩,
  (List.forall_mem_cons.mpr ⟨⟨rfl, va_Nw.of rfl (hts _ tw_1640)⟩,
  (List.forall_mem_cons.mpr ⟨⟨rfl, va_Nw.of rfl (hts _ tw_1665)⟩,
  (List.forall_mem_cons.mpr ⟨⟨rfl, va_Nw.of rfl (hts _ tw_1670)⟩,
  (List.forall_mem_cons.mpr ⟨⟨rfl, va_Nw.of rfl (hts _ tw_1825)⟩,
  (List.forall_mem_cons.mpr ⟨⟨rfl, va_Nw.of rfl (hts _ tw_1990)⟩,
  (List.forall_mem_cons.mpr ⟨⟨rfl, va_Nw.of rfl (hts _ tw_2252)⟩,
  (List.forall_mem_cons.mpr ⟨⟨rfl, va_Nw.of rfl (hts _ tw_2378)⟩,
  (List.forall_mem_cons.mpr ⟨⟨rfl, va_Nw.of rfl (hts _ tw_2430)⟩,
  (List.forall_mem_cons.mpr ⟨⟨rfl, va_Nw.of rfl (hts _ tw_2740)⟩,
  (List.forall_mem_cons.mpr ⟨⟨rfl, va_Nw.of rfl (hts _ tw_2826)⟩,
  (List.forall_mem_cons.mpr ⟨⟨rfl, va_Nw.of rfl (hts _ tw_2930)⟩,
  (List.forall_mem_cons.mpr ⟨⟨rfl, va_Nw.of rfl (hts _ tw_2987)⟩,
  (List.forall_mem_cons.mpr ⟨⟨rfl, va_Nw.of rfl (hts _ tw_3084)⟩,
  (List.forall_mem_cons.mpr ⟨⟨rfl, (hts _ tw_3089 : (Cond.arrayOver (.array .byte)).before #[Value.ref b] s = true)⟩,
  (List.forall_mem_cons.mpr ⟨⟨rfl, va_Nw.of rfl (hts _ tw_3145)⟩,
  (List.forall_mem_cons.mpr ⟨⟨rfl, va_Nw.of rfl (hts _ tw_3192)⟩,
  (List.forall_mem_cons.mpr ⟨⟨rfl, va_Nw.of rfl (hts _ tw_3291)⟩,
  (List.forall_mem_cons.mpr ⟨⟨rfl, va_Nw.of rfl (hts _ tw_3342)⟩,
  (List.forall_mem_cons.mpr ⟨⟨rfl, va_Nw.of rfl (hts _ tw_3379)⟩,
  (List.forall_mem_cons.mpr ⟨⟨rfl, va_Nw.of rfl (hts _ tw_3450)⟩,
  (List.forall_mem_cons.mpr ⟨⟨rfl, va_Nw.of rfl (hts _ tw_3616)⟩,
  (List.forall_mem_cons.mpr ⟨⟨rfl, va_Nw.of rfl (hts _ tw_3617)⟩,
  (List.forall_mem_cons.mpr ⟨⟨rfl, va_Nw.of rfl (hts _ tw_3618)⟩,
  (List.forall_mem_cons.mpr ⟨⟨rfl, va_Nw.of rfl (hts _ tw_3619)⟩,
  (List.forall_mem_cons.mpr ⟨⟨rfl, va_Nw.of rfl (hts _ tw_3620)⟩,
  (List.forall_mem_cons.mpr ⟨⟨rfl, va_Nw.of rfl (hts _ tw_3621)⟩,
  (List.forall_mem_cons.mpr ⟨⟨rfl, va_Nw.of rfl (hts _ tw_3622)⟩,
  (List.forall_mem_cons.mpr ⟨⟨rfl, va_Nw.of rfl (hts _ tw_3623)⟩,
  (List.forall_mem_cons.mpr ⟨⟨rfl, va_Nw.of rfl (hts _ tw_3624)⟩,
  (List.forall_mem_cons.mpr ⟨⟨rfl, va_Nw.of rfl (hts _ tw_3625)⟩,
  (List.forall_mem_cons.mpr ⟨⟨rfl, va_Nw.of rfl (hts _ tw_3626)⟩,
  (List.forall_mem_cons.mpr ⟨⟨rfl, va_Nw.of rfl (hts _ tw_3627)⟩,
  (List.forall_mem_cons.mpr ⟨⟨rfl, va_Nw.of rfl (hts _ tw_3630)⟩,
  (List.forall_mem_cons.mpr ⟨⟨rfl, va_Nw.of rfl (hts _ tw_3631)⟩,
  (List.forall_mem_cons.mpr ⟨⟨rfl, va_Nw.of rfl (hts _ tw_3632)⟩,
  (List.forall_mem_cons.mpr ⟨⟨rfl, va_Nw.of rfl (hts _ tw_3633)⟩,
  (List.forall_mem_cons.mpr ⟨⟨rfl, va_Nw.of rfl (hts _ tw_3634)⟩,
  (List.forall_mem_cons.mpr ⟨⟨rfl, va_Nw.of rfl (hts _ tw_3635)⟩,
  (List.forall_mem_cons.mpr ⟨⟨rfl, va_Nw.of rfl (hts _ tw_3636)⟩,
  (List.forall_mem_cons.mpr ⟨⟨rfl, va_Nw.of rfl (hts _ tw_3637)⟩,
  (List.forall_mem_cons.mpr ⟨⟨rfl, va_Nw.of rfl (hts _ tw_3638)⟩,
  (List.forall_mem_cons.mpr ⟨⟨rfl, va_Nw.of rfl (hts _ tw_3639)⟩,
  (List.forall_mem_cons.mpr ⟨⟨rfl, va_Nw.of rfl (hts _ tw_3640)⟩,
  (List.forall_mem_cons.mpr ⟨⟨rfl, va_Nw.of rfl (hts _ tw_3641)⟩,
  (List.forall_mem_cons.mpr ⟨⟨rfl, va_Nw.of rfl (hts _ tw_3642)⟩,
  (List.forall_mem_cons.mpr ⟨⟨rfl, va_Nw.of rfl (hts _ tw_3643)⟩,
  (List.forall_mem_cons.mpr ⟨⟨rfl, va_Nw.of rfl (hts _ tw_3644)⟩,
  (List.forall_mem_cons.mpr ⟨⟨rfl, va_Nw.of rfl (hts _ tw_3645)⟩,
  (List.forall_mem_cons.mpr ⟨⟨rfl, va_Nw.of rfl (hts _ tw_3646)⟩,
  (List.forall_mem_cons.mpr ⟨⟨rfl, va_Nw.of rfl (hts _ tw_3647)⟩,
  (List.forall_mem_cons.mpr ⟨⟨rfl, va_Nw.of rfl (hts _ tw_3648)⟩,
  (List.forall_mem_cons.mpr ⟨⟨rfl, va_Nw.of rfl (hts _ tw_3649)⟩,
  (List.forall_mem_cons.mpr ⟨⟨rfl, va_Nw.of rfl (hts _ tw_3650)⟩,
  (List.forall_mem_cons.mpr ⟨⟨rfl, va_Nw.of rfl (hts _ tw_3651)⟩,
  (List.forall_mem_cons.mpr ⟨⟨rfl, va_Nw.of rfl (hts _ tw_3652)⟩,
  (List.forall_mem_cons.mpr ⟨⟨rfl, va_Nw.of rfl (hts _ tw_3653)⟩,
  (List.forall_mem_cons.mpr ⟨⟨rfl, va_Nw.of rfl (hts _ tw_3654)⟩,
  (List.forall_mem_cons.mpr ⟨⟨rfl, va_Nw.of rfl (hts _ tw_3655)⟩,
  (List.forall_mem_cons.mpr ⟨⟨rfl, va_Nw.of rfl (hts _ tw_3656)⟩,
  (List.forall_mem_cons.mpr ⟨⟨rfl, va_Nw.of rfl (hts _ tw_3657)⟩,
  (fun _ h => absurd h List.not_mem_nil)⟩)⟩)⟩)⟩)⟩)⟩)⟩)⟩)⟩)⟩)⟩)⟩)⟩)⟩)⟩)⟩)⟩)⟩)⟩)⟩)⟩)⟩)⟩)⟩)⟩)⟩)⟩)⟩)⟩)⟩)⟩)⟩)⟩)⟩)⟩)⟩)⟩)⟩)⟩)⟩)⟩)⟩)⟩)⟩)⟩)⟩)⟩)⟩)⟩)⟩)⟩)⟩)⟩)⟩)⟩)⟩)⟩)⟩)⟩)⟩)⟩)⟩)⟩)⟩)⟩)⟩)⟩)⟩)⟩)⟩)⟩)⟩)⟩)⟩)
set_option maxRecDepth 20000 in
set_option maxHeartbeats 4000000 in
theorem x_e_hos {s : State} {b : Nat} (hts : ∀ w ∈ lw_tbl, w.before #[Value.ref b] s = true) : ∀ C ∈ x_o0, va_AO C s := (List.forall_mem_cons.mpr ⟨va_AO.of (hts _ tw_301),
  (List.forall_mem_cons.mpr ⟨va_AO.of (hts _ tw_448),
  (List.forall_mem_cons.mpr ⟨va_AO.of (hts _ tw_513),
  (List.forall_mem_cons.mpr ⟨va_AO.of (hts _ tw_822),
  (List.forall_mem_cons.mpr ⟨va_AO.of (hts _ tw_2362),
  (List.forall_mem_cons.mpr ⟨va_AO.of (hts _ tw_2364),
  (List.forall_mem_cons.mpr ⟨va_AO.of (hts _ tw_2366),
  (List.forall_mem_cons.mpr ⟨va_AO.of (hts _ tw_2368),
  (List.forall_mem_cons.mpr ⟨va_AO.of (hts _ tw_2370),
  (List.forall_mem_cons.mpr ⟨va_AO.of (hts _ tw_2372),
  (List.forall_mem_cons.mpr ⟨va_AO.of (hts _ tw_2374),
  (List.forall_mem_cons.mpr ⟨va_AO.of (hts _ tw_2376),
  (List.forall_mem_cons.mpr ⟨va_AO.of (hts _ tw_2383),
  (List.forall_mem_cons.mpr ⟨va_AO.of (hts _ tw_2435),
  (List.forall_mem_cons.mpr ⟨va_AO.of (hts _ tw_2437),
  (fun _ h => absurd h List.not_mem_nil)⟩)⟩)⟩)⟩)⟩)⟩)⟩)⟩)⟩)⟩)⟩)⟩)⟩)⟩)⟩)
set_option maxRecDepth 20000 in
set_option maxHeartbeats 4000000 in
theorem x_e_hxs {s : State} {b : Nat} (hgv : (Jvm.Cond.and given_1 narrow_1).before #[Value.ref b] s = true) : ∀ z ∈ x_x0, va_Nc z.1 z.2 s := by
  have hs := flat_of_before _ hgv
  exact (List.forall_mem_cons.mpr ⟨va_Nc.of (hs (Cond.not (Cond.castable "RelayHall$Binding" "RelayHall$Exchange")) (by decide +kernel)),
  (List.forall_mem_cons.mpr ⟨va_Nc.of (hs (Cond.not (Cond.castable "RelayHall$Binding" "RelayHall$Message")) (by decide +kernel)),
  (List.forall_mem_cons.mpr ⟨va_Nc.of (hs (Cond.not (Cond.castable "RelayHall$Binding" "RelayHall$Queue")) (by decide +kernel)),
  (List.forall_mem_cons.mpr ⟨va_Nc.of (hs (Cond.not (Cond.castable "RelayHall$Exchange" "RelayHall$Binding")) (by decide +kernel)),
  (List.forall_mem_cons.mpr ⟨va_Nc.of (hs (Cond.not (Cond.castable "RelayHall$Exchange" "RelayHall$Message")) (by decide +kernel)),
  (List.forall_mem_cons.mpr ⟨va_Nc.of (hs (Cond.not (Cond.castable "RelayHall$Exchange" "RelayHall$Queue")) (by decide +kernel)),
  (List.forall_mem_cons.mpr ⟨va_Nc.of (hs (Cond.not (Cond.castable "RelayHall$Message" "RelayHall$Binding")) (by decide +kernel)),
  (List.forall_mem_cons.mpr ⟨va_Nc.of (hs (Cond.not (Cond.castable "RelayHall$Message" "RelayHall$Exchange")) (by decide +kernel)),
  (List.forall_mem_cons.mpr ⟨va_Nc.of (hs (Cond.not (Cond.castable "RelayHall$Message" "RelayHall$Queue")) (by decide +kernel)),
  (List.forall_mem_cons.mpr ⟨va_Nc.of (hs (Cond.not (Cond.castable "RelayHall$Queue" "RelayHall$Binding")) (by decide +kernel)),
  (List.forall_mem_cons.mpr ⟨va_Nc.of (hs (Cond.not (Cond.castable "RelayHall$Queue" "RelayHall$Exchange")) (by decide +kernel)),
  (List.forall_mem_cons.mpr ⟨va_Nc.of (hs (Cond.not (Cond.castable "RelayHall$Queue" "RelayHall$Message")) (by decide +kernel)),
  (List.forall_mem_cons.mpr ⟨va_Nc.of (hs (Cond.not (Cond.castable "java/lang/IndexOutOfBoundsException" "java/util/NoSuchElementException")) (by decide +kernel)),
  (fun _ h => absurd h List.not_mem_nil)⟩)⟩)⟩)⟩)⟩)⟩)⟩)⟩)⟩)⟩)⟩)⟩)⟩)
theorem x_e_K {s : State} {b : Nat} (hts : ∀ w ∈ lw_tbl, w.before #[Value.ref b] s = true) : ∃ (D : va_G) (tc : Nat → ClassId), va_K D x_cl0 (x_ty0 tc) s := by
  have hcl := x_e_hcl hts
  have hty := x_e_hty hts
  have hcl2 : ∀ k : Nat, ∃ (cC : ClassId) (iS : Nat → Nat), ∀ z, x_cl0[k]? = some z → u_Kn s z.1 z.2.1 z.2.2 cC iS := by
    intro k
    cases hk : x_cl0[k]? with
    | none => exact ⟨0, fun _ => 0, fun z hz => by cases hz⟩
    | some z =>
      obtain ⟨cC, iS, h⟩ := hcl z (List.mem_of_getElem? hk)
      exact ⟨cC, iS, fun z' hz => by cases hz; exact h⟩
  have hty2 : ∀ k : Nat, ∃ cA : ClassId, ∀ ty, x_tl0[k]? = some ty → ArrOfT s cA ty ∧ va_RA s cA ty := by
    intro k
    cases hk : x_tl0[k]? with
    | none => exact ⟨0, fun z hz => by cases hz⟩
    | some ty =>
      obtain ⟨cA, h⟩ := hty ty (List.mem_of_getElem? hk)
      exact ⟨cA, fun z' hz => by cases hz; exact h⟩
  obtain ⟨dC, hdC⟩ : ∃ dC : Nat → ClassId, ∀ k, ∃ iS : Nat → Nat, ∀ z, x_cl0[k]? = some z → u_Kn s z.1 z.2.1 z.2.2 (dC k) iS := ⟨fun k => Classical.choose (hcl2 k), fun k => Classical.choose_spec (hcl2 k)⟩
  obtain ⟨dI, hdI⟩ : ∃ dI : Nat → Nat → Nat, ∀ k z, x_cl0[k]? = some z → u_Kn s z.1 z.2.1 z.2.2 (dC k) (dI k) := ⟨fun k => Classical.choose (hdC k), fun k => Classical.choose_spec (hdC k)⟩
  obtain ⟨tc, htc⟩ : ∃ tc : Nat → ClassId, ∀ k ty, x_tl0[k]? = some ty → ArrOfT s (tc k) ty ∧ va_RA s (tc k) ty := ⟨fun k => Classical.choose (hty2 k), fun k => Classical.choose_spec (hty2 k)⟩
  refine ⟨(dC, dI), tc, hdI, ?_⟩
  intro k z hz
  obtain ⟨ty, hk, rfl⟩ := x_mi_at x_tl0 0 k z hz
  have h := htc k ty hk
  rw [Nat.zero_add]
  exact h
end XEnvA
