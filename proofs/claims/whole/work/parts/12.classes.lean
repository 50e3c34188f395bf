section XW
def lw_G : List Cond := lw_tbl.filter goodWord
theorem x_gw {w : Cond} (i : Nat) (h : lw_tbl[i]? = some w) (hg : goodWord w = true) : w ∈ lw_G := List.mem_filter.mpr ⟨List.mem_of_getElem? h, hg⟩
def x_nr (v : Value) : Bool := match v with
  | .ref _ => false
  | _ => true
theorem x_dv {ty : Nat → FieldType} {fs : List Value} {ad : Nat → Nat} (N : Nat) (h : ∀ j, j < N → defaultValue (ty j) = vp_V fs j ∧ x_nr (vp_V fs j) = true) : ∀ j, j < N → defaultValue (ty j) = vp_V (fs.map (x_v ad)) j := by
  intro j hj
  obtain ⟨h1, h2⟩ := h j hj
  rw [h1]
  unfold vp_V at h2 ⊢
  by_cases hl : j < fs.length
  · simp only [List.getD_eq_getElem?_getD, List.getElem?_map, List.getElem?_eq_getElem hl, Option.map_some, Option.getD_some] at h2 ⊢
    generalize fs[j] = v at h2 ⊢
    cases v <;> first | rfl | (simp [x_nr] at h2)
  · simp [List.getD_eq_getElem?_getD, List.getElem?_eq_none (Nat.le_of_not_lt hl)]
theorem x_wsG {ws : List Cond} (is : List Nat) (hp : ws = is.filterMap (fun i => lw_tbl[i]?)) (hg : ws.all goodWord = true) : ∀ w ∈ ws, w ∈ lw_G := by
  intro w hw
  have h1 := List.all_eq_true.mp hg w hw
  rw [hp] at hw
  obtain ⟨i, -, hi⟩ := List.mem_filterMap.mp hw
  exact List.mem_filter.mpr ⟨List.mem_of_getElem? hi, h1⟩
def xT_0 : u_T := fun k => match k with
  | 0 => ("RelayHall", "tape", "[B", true)
  | 1 => ("RelayHall", "tapeLength", "I", false)
  | 2 => ("RelayHall", "connections", "[LRelayHall$Connection;", true)
  | 3 => ("RelayHall", "defaultExchange", "LRelayHall$Exchange;", true)
  | 4 => ("RelayHall", "exchanges", "Ljava/util/ArrayList;", true)
  | 5 => ("RelayHall", "queues", "Ljava/util/ArrayList;", true)
  | 6 => ("RelayHall", "bindings", "Ljava/util/ArrayList;", true)
  | 7 => ("RelayHall", "consumers", "Ljava/util/ArrayList;", true)
  | 8 => ("RelayHall", "dead", "Ljava/util/ArrayList;", true)
  | 9 => ("RelayHall", "leaving", "Ljava/util/ArrayList;", true)
  | 10 => ("RelayHall", "targets", "Ljava/util/ArrayList;", true)
  | 11 => ("RelayHall", "log", "LRelayHall$Log;", true)
  | 12 => ("RelayHall", "in", "LRelayHall$Reader;", true)
  | 13 => ("RelayHall", "words", "Ljava/lang/StringBuilder;", true)
  | 14 => ("RelayHall", "blame", "I", false)
  | 15 => ("RelayHall", "clock", "I", false)
  | 16 => ("RelayHall", "held", "I", false)
  | 17 => ("RelayHall", "lastNumber", "I", false)
  | 18 => ("RelayHall", "lastGenerated", "I", false)
  | 19 => ("RelayHall", "deaths", "I", false)
  | _ => ("RelayHall", "crashes", "I", false)
def xY_0 : Nat → FieldType := fun k => match k with
  | 0 => (.array .byte)
  | 1 => .int
  | 2 => (.array (.object "RelayHall$Connection"))
  | 3 => (.object "RelayHall$Exchange")
  | 4 => (.object "java/util/ArrayList")
  | 5 => (.object "java/util/ArrayList")
  | 6 => (.object "java/util/ArrayList")
  | 7 => (.object "java/util/ArrayList")
  | 8 => (.object "java/util/ArrayList")
  | 9 => (.object "java/util/ArrayList")
  | 10 => (.object "java/util/ArrayList")
  | 11 => (.object "RelayHall$Log")
  | 12 => (.object "RelayHall$Reader")
  | 13 => (.object "java/lang/StringBuilder")
  | 14 => .int
  | 15 => .int
  | 16 => .int
  | 17 => .int
  | 18 => .int
  | 19 => .int
  | _ => .int
theorem xN_0 : ∀ a, a < 21 → ∀ b, b < 21 → a ≠ b → (xT_0 a).2.1 ≠ (xT_0 b).2.1 := by decide +kernel
theorem xYo_0 : ∀ k, k < 21 → parseFieldDescriptor (xT_0 k).2.2.1 = some (xY_0 k) := by decide +kernel
theorem xws_0 : ∀ w ∈ u_ws "RelayHall" xT_0 21, w ∈ lw_G := x_wsG [622, 624, 626, 628, 630, 632, 634, 636, 638, 640, 642, 644, 646, 648, 650, 652, 654, 656, 658, 660, 662] (by decide +kernel) (by decide +kernel)
def xD_0 : List Value := [.null, .int 0, .null, .null, .null, .null, .null, .null, .null, .null, .null, .null, .null, .null, .int 0, .int 0, .int 0, .int 0, .int 0, .int 0, .int 0]
theorem xDo_0 {ad : Nat → Nat} : ∀ j, j < 21 → defaultValue (xY_0 j) = vp_V (xD_0.map (x_v ad)) j := x_dv 21 (by decide +kernel)
def xT_1 : u_T := fun k => match k with
  | 0 => ("RelayHall$Exchange", "name", "Ljava/lang/String;", true)
  | 1 => ("RelayHall$Exchange", "kind", "I", true)
  | 2 => ("RelayHall$Exchange", "bits", "I", true)
  | 3 => ("RelayHall$Exchange", "alternate", "Ljava/lang/String;", true)
  | 4 => ("RelayHall$Exchange", "durable", "Z", true)
  | 5 => ("RelayHall$Exchange", "autoDelete", "Z", true)
  | 6 => ("RelayHall$Exchange", "internal", "Z", true)
  | _ => ("RelayHall$Durable", "safe", "Z", false)
def xY_1 : Nat → FieldType := fun k => match k with
  | 0 => (.object "java/lang/String")
  | 1 => .int
  | 2 => .int
  | 3 => (.object "java/lang/String")
  | 4 => .boolean
  | 5 => .boolean
  | 6 => .boolean
  | _ => .boolean
theorem xN_1 : ∀ a, a < 8 → ∀ b, b < 8 → a ≠ b → (xT_1 a).2.1 ≠ (xT_1 b).2.1 := by decide +kernel
theorem xYo_1 : ∀ k, k < 8 → parseFieldDescriptor (xT_1 k).2.2.1 = some (xY_1 k) := by decide +kernel
theorem xws_1 : ∀ w ∈ u_ws "RelayHall$Exchange" xT_1 8, w ∈ lw_G := x_wsG [330, 332, 334, 336, 338, 340, 342, 344] (by decide +kernel) (by decide +kernel)
def xD_1 : List Value := [.null, .int 0, .int 0, .null, .int 0, .int 0, .int 0, .int 0]
theorem xDo_1 {ad : Nat → Nat} : ∀ j, j < 8 → defaultValue (xY_1 j) = vp_V (xD_1.map (x_v ad)) j := x_dv 8 (by decide +kernel)
def xT_2 : u_T := fun k => match k with
  | 0 => ("java/util/ArrayList", "elementData", "[Ljava/lang/Object;", false)
  | 1 => ("java/util/ArrayList", "size", "I", false)
  | _ => ("java/util/AbstractList", "modCount", "I", false)
def xY_2 : Nat → FieldType := fun k => match k with
  | 0 => (.array (.object "java/lang/Object"))
  | 1 => .int
  | _ => .int
theorem xN_2 : ∀ a, a < 3 → ∀ b, b < 3 → a ≠ b → (xT_2 a).2.1 ≠ (xT_2 b).2.1 := by decide +kernel
theorem xYo_2 : ∀ k, k < 3 → parseFieldDescriptor (xT_2 k).2.2.1 = some (xY_2 k) := by decide +kernel
theorem xws_2 : ∀ w ∈ u_ws "java/util/ArrayList" xT_2 3, w ∈ lw_G := x_wsG [367, 369, 371] (by decide +kernel) (by decide +kernel)
def xD_2 : List Value := [.null, .int 0, .int 0]
theorem xDo_2 {ad : Nat → Nat} : ∀ j, j < 3 → defaultValue (xY_2 j) = vp_V (xD_2.map (x_v ad)) j := x_dv 3 (by decide +kernel)
def xT_3 : u_T := fun k => match k with
  | 0 => ("RelayHall$Log", "pending", "Ljava/util/ArrayList;", true)
  | _ => ("RelayHall$Log", "things", "Ljava/util/ArrayList;", true)
def xY_3 : Nat → FieldType := fun k => match k with
  | 0 => (.object "java/util/ArrayList")
  | _ => (.object "java/util/ArrayList")
theorem xN_3 : ∀ a, a < 2 → ∀ b, b < 2 → a ≠ b → (xT_3 a).2.1 ≠ (xT_3 b).2.1 := by decide +kernel
theorem xYo_3 : ∀ k, k < 2 → parseFieldDescriptor (xT_3 k).2.2.1 = some (xY_3 k) := by decide +kernel
theorem xws_3 : ∀ w ∈ u_ws "RelayHall$Log" xT_3 2, w ∈ lw_G := x_wsG [386, 388] (by decide +kernel) (by decide +kernel)
def xD_3 : List Value := [.null, .null]
theorem xDo_3 {ad : Nat → Nat} : ∀ j, j < 2 → defaultValue (xY_3 j) = vp_V (xD_3.map (x_v ad)) j := x_dv 2 (by decide +kernel)
def xT_4 : u_T := fun k => match k with
  | 0 => ("RelayHall$Reader", "bytes", "[B", false)
  | 1 => ("RelayHall$Reader", "at", "I", false)
  | 2 => ("RelayHall$Reader", "end", "I", false)
  | _ => ("RelayHall$Reader", "wrong", "Z", false)
def xY_4 : Nat → FieldType := fun k => match k with
  | 0 => (.array .byte)
  | 1 => .int
  | 2 => .int
  | _ => .boolean
theorem xN_4 : ∀ a, a < 4 → ∀ b, b < 4 → a ≠ b → (xT_4 a).2.1 ≠ (xT_4 b).2.1 := by decide +kernel
theorem xYo_4 : ∀ k, k < 4 → parseFieldDescriptor (xT_4 k).2.2.1 = some (xY_4 k) := by decide +kernel
theorem xws_4 : ∀ w ∈ u_ws "RelayHall$Reader" xT_4 4, w ∈ lw_G := x_wsG [401, 403, 405, 407] (by decide +kernel) (by decide +kernel)
def xD_4 : List Value := [.null, .int 0, .int 0, .int 0]
theorem xDo_4 {ad : Nat → Nat} : ∀ j, j < 4 → defaultValue (xY_4 j) = vp_V (xD_4.map (x_v ad)) j := x_dv 4 (by decide +kernel)
def xT_5 : u_T := fun k => match k with
  | 0 => ("java/lang/AbstractStringBuilder", "value", "[B", false)
  | 1 => ("java/lang/AbstractStringBuilder", "coder", "B", false)
  | 2 => ("java/lang/AbstractStringBuilder", "maybeLatin1", "Z", false)
  | _ => ("java/lang/AbstractStringBuilder", "count", "I", false)
def xY_5 : Nat → FieldType := fun k => match k with
  | 0 => (.array .byte)
  | 1 => .byte
  | 2 => .boolean
  | _ => .int
theorem xN_5 : ∀ a, a < 4 → ∀ b, b < 4 → a ≠ b → (xT_5 a).2.1 ≠ (xT_5 b).2.1 := by decide +kernel
theorem xYo_5 : ∀ k, k < 4 → parseFieldDescriptor (xT_5 k).2.2.1 = some (xY_5 k) := by decide +kernel
theorem xws_5 : ∀ w ∈ u_ws "java/lang/StringBuilder" xT_5 4, w ∈ lw_G := x_wsG [433, 435, 437, 439] (by decide +kernel) (by decide +kernel)
def xD_5 : List Value := [.null, .int 0, .int 0, .int 0]
theorem xDo_5 {ad : Nat → Nat} : ∀ j, j < 4 → defaultValue (xY_5 j) = vp_V (xD_5.map (x_v ad)) j := x_dv 4 (by decide +kernel)
def xT_6 : u_T := fun k => match k with
  | 0 => ("RelayHall$Connection", "channels", "[LRelayHall$Channel;", true)
  | 1 => ("RelayHall$Connection", "state", "I", false)
  | 2 => ("RelayHall$Connection", "heartbeat", "I", false)
  | 3 => ("RelayHall$Connection", "lastIn", "I", false)
  | 4 => ("RelayHall$Connection", "lastOut", "I", false)
  | 5 => ("RelayHall$Connection", "closingSince", "I", false)
  | 6 => ("RelayHall$Connection", "in", "[B", true)
  | 7 => ("RelayHall$Connection", "inLength", "I", false)
  | 8 => ("RelayHall$Connection", "deaf", "Z", false)
  | 9 => ("RelayHall$Connection", "out", "[B", true)
  | 10 => ("RelayHall$Connection", "outStart", "I", false)
  | 11 => ("RelayHall$Connection", "outLength", "I", false)
  | 12 => ("RelayHall$Connection", "drafted", "I", false)
  | _ => ("RelayHall$Connection", "frameAt", "I", false)
def xY_6 : Nat → FieldType := fun k => match k with
  | 0 => (.array (.object "RelayHall$Channel"))
  | 1 => .int
  | 2 => .int
  | 3 => .int
  | 4 => .int
  | 5 => .int
  | 6 => (.array .byte)
  | 7 => .int
  | 8 => .boolean
  | 9 => (.array .byte)
  | 10 => .int
  | 11 => .int
  | 12 => .int
  | _ => .int
theorem xN_6 : ∀ a, a < 14 → ∀ b, b < 14 → a ≠ b → (xT_6 a).2.1 ≠ (xT_6 b).2.1 := by decide +kernel
theorem xYo_6 : ∀ k, k < 14 → parseFieldDescriptor (xT_6 k).2.2.1 = some (xY_6 k) := by decide +kernel
theorem xws_6 : ∀ w ∈ u_ws "RelayHall$Connection" xT_6 14, w ∈ lw_G := x_wsG [474, 476, 478, 480, 482, 484, 486, 488, 490, 492, 494, 496, 498, 500] (by decide +kernel) (by decide +kernel)
def xD_6 : List Value := [.null, .int 0, .int 0, .int 0, .int 0, .int 0, .null, .int 0, .int 0, .null, .int 0, .int 0, .int 0, .int 0]
theorem xDo_6 {ad : Nat → Nat} : ∀ j, j < 14 → defaultValue (xY_6 j) = vp_V (xD_6.map (x_v ad)) j := x_dv 14 (by decide +kernel)
def xT_7 : u_T := fun k => match k with
  | 0 => ("RelayHall$Channel", "connection", "LRelayHall$Connection;", true)
  | 1 => ("RelayHall$Channel", "number", "I", true)
  | 2 => ("RelayHall$Channel", "state", "I", false)
  | 3 => ("RelayHall$Channel", "mode", "I", false)
  | 4 => ("RelayHall$Channel", "active", "Z", false)
  | 5 => ("RelayHall$Channel", "limit", "I", false)
  | 6 => ("RelayHall$Channel", "consumerLimit", "I", false)
  | 7 => ("RelayHall$Channel", "lastTag", "I", false)
  | 8 => ("RelayHall$Channel", "lastMadeTag", "I", false)
  | 9 => ("RelayHall$Channel", "lastConfirm", "I", false)
  | 10 => ("RelayHall$Channel", "lastQueue", "Ljava/lang/String;", false)
  | 11 => ("RelayHall$Channel", "due", "I", false)
  | 12 => ("RelayHall$Channel", "content", "LRelayHall$Message;", false)
  | 13 => ("RelayHall$Channel", "filled", "I", false)
  | 14 => ("RelayHall$Channel", "unacked", "Ljava/util/ArrayList;", true)
  | 15 => ("RelayHall$Channel", "unackedOfConsumers", "I", false)
  | 16 => ("RelayHall$Channel", "kept", "I", false)
  | 17 => ("RelayHall$Channel", "keptKinds", "[I", true)
  | 18 => ("RelayHall$Channel", "keptMessages", "[LRelayHall$Message;", true)
  | _ => ("RelayHall$Channel", "confirmsDue", "Ljava/util/ArrayList;", true)
def xY_7 : Nat → FieldType := fun k => match k with
  | 0 => (.object "RelayHall$Connection")
  | 1 => .int
  | 2 => .int
  | 3 => .int
  | 4 => .boolean
  | 5 => .int
  | 6 => .int
  | 7 => .int
  | 8 => .int
  | 9 => .int
  | 10 => (.object "java/lang/String")
  | 11 => .int
  | 12 => (.object "RelayHall$Message")
  | 13 => .int
  | 14 => (.object "java/util/ArrayList")
  | 15 => .int
  | 16 => .int
  | 17 => (.array .int)
  | 18 => (.array (.object "RelayHall$Message"))
  | _ => (.object "java/util/ArrayList")
theorem xN_7 : ∀ a, a < 20 → ∀ b, b < 20 → a ≠ b → (xT_7 a).2.1 ≠ (xT_7 b).2.1 := by decide +kernel
theorem xYo_7 : ∀ k, k < 20 → parseFieldDescriptor (xT_7 k).2.2.1 = some (xY_7 k) := by decide +kernel
theorem xws_7 : ∀ w ∈ u_ws "RelayHall$Channel" xT_7 20, w ∈ lw_G := x_wsG [559, 561, 563, 565, 567, 569, 571, 573, 575, 577, 579, 581, 583, 585, 587, 589, 591, 593, 595, 597] (by decide +kernel) (by decide +kernel)
def xD_7 : List Value := [.null, .int 0, .int 0, .int 0, .int 0, .int 0, .int 0, .int 0, .int 0, .int 0, .null, .int 0, .null, .int 0, .null, .int 0, .int 0, .null, .null, .null]
theorem xDo_7 {ad : Nat → Nat} : ∀ j, j < 20 → defaultValue (xY_7 j) = vp_V (xD_7.map (x_v ad)) j := x_dv 20 (by decide +kernel)
def xT_8 : u_T := fun k => match k with
  | 0 => ("java/lang/String", "value", "[B", true)
  | 1 => ("java/lang/String", "coder", "B", true)
  | 2 => ("java/lang/String", "hash", "I", false)
  | _ => ("java/lang/String", "hashIsZero", "Z", false)
def xY_8 : Nat → FieldType := fun k => match k with
  | 0 => (.array .byte)
  | 1 => .byte
  | 2 => .int
  | _ => .boolean
theorem xN_8 : ∀ a, a < 4 → ∀ b, b < 4 → a ≠ b → (xT_8 a).2.1 ≠ (xT_8 b).2.1 := by decide +kernel
theorem xYo_8 : ∀ k, k < 4 → parseFieldDescriptor (xT_8 k).2.2.1 = some (xY_8 k) := by decide +kernel
theorem xws_8 : ∀ w ∈ u_ws "java/lang/String" xT_8 4, w ∈ lw_G := x_wsG [954, 956, 958, 960] (by decide +kernel) (by decide +kernel)
def xD_8 : List Value := [.null, .int 0, .int 0, .int 0]
theorem xDo_8 {ad : Nat → Nat} : ∀ j, j < 4 → defaultValue (xY_8 j) = vp_V (xD_8.map (x_v ad)) j := x_dv 4 (by decide +kernel)
def xT_9 : u_T := fun k => match k with
  | 0 => ("RelayHall$Table", "raw", "Ljava/lang/String;", true)
  | 1 => ("RelayHall$Table", "count", "I", false)
  | 2 => ("RelayHall$Table", "from", "[I", true)
  | _ => ("RelayHall$Table", "to", "[I", true)
def xY_9 : Nat → FieldType := fun k => match k with
  | 0 => (.object "java/lang/String")
  | 1 => .int
  | 2 => (.array .int)
  | _ => (.array .int)
theorem xN_9 : ∀ a, a < 4 → ∀ b, b < 4 → a ≠ b → (xT_9 a).2.1 ≠ (xT_9 b).2.1 := by decide +kernel
theorem xYo_9 : ∀ k, k < 4 → parseFieldDescriptor (xT_9 k).2.2.1 = some (xY_9 k) := by decide +kernel
theorem xws_9 : ∀ w ∈ u_ws "RelayHall$Table" xT_9 4, w ∈ lw_G := x_wsG [1080, 1082, 1084, 1086] (by decide +kernel) (by decide +kernel)
def xD_9 : List Value := [.null, .int 0, .null, .null]
theorem xDo_9 {ad : Nat → Nat} : ∀ j, j < 4 → defaultValue (xY_9 j) = vp_V (xD_9.map (x_v ad)) j := x_dv 4 (by decide +kernel)
def xT_10 : u_T := fun k => match k with
  | 0 => ("java/lang/Throwable", "cause", "Ljava/lang/Throwable;", false)
  | 1 => ("java/lang/Throwable", "stackTrace", "[Ljava/lang/StackTraceElement;", false)
  | 2 => ("java/lang/Throwable", "suppressedExceptions", "Ljava/util/List;", false)
  | 3 => ("java/lang/Throwable", "detailMessage", "Ljava/lang/String;", false)
  | 4 => ("java/lang/Throwable", "backtrace", "Ljava/lang/Object;", false)
  | _ => ("java/lang/Throwable", "depth", "I", false)
def xY_10 : Nat → FieldType := fun k => match k with
  | 0 => (.object "java/lang/Throwable")
  | 1 => (.array (.object "java/lang/StackTraceElement"))
  | 2 => (.object "java/util/List")
  | 3 => (.object "java/lang/String")
  | 4 => (.object "java/lang/Object")
  | _ => .int
theorem xN_10 : ∀ a, a < 6 → ∀ b, b < 6 → a ≠ b → (xT_10 a).2.1 ≠ (xT_10 b).2.1 := by decide +kernel
theorem xYo_10 : ∀ k, k < 6 → parseFieldDescriptor (xT_10 k).2.2.1 = some (xY_10 k) := by decide +kernel
theorem xws_10 : ∀ w ∈ u_ws "java/lang/IllegalArgumentException" xT_10 6, w ∈ lw_G := x_wsG [1161, 1163, 1165, 1167, 1169, 1341] (by decide +kernel) (by decide +kernel)
def xD_10 : List Value := [.null, .null, .null, .null, .null, .int 0]
theorem xDo_10 {ad : Nat → Nat} : ∀ j, j < 6 → defaultValue (xY_10 j) = vp_V (xD_10.map (x_v ad)) j := x_dv 6 (by decide +kernel)
def xT_11 : u_T := fun k => match k with
  | 0 => ("java/lang/Throwable", "backtrace", "Ljava/lang/Object;", false)
  | 1 => ("java/lang/Throwable", "detailMessage", "Ljava/lang/String;", false)
  | 2 => ("java/lang/Throwable", "cause", "Ljava/lang/Throwable;", false)
  | 3 => ("java/lang/Throwable", "stackTrace", "[Ljava/lang/StackTraceElement;", false)
  | 4 => ("java/lang/Throwable", "depth", "I", false)
  | _ => ("java/lang/Throwable", "suppressedExceptions", "Ljava/util/List;", false)
def xY_11 : Nat → FieldType := fun k => match k with
  | 0 => (.object "java/lang/Object")
  | 1 => (.object "java/lang/String")
  | 2 => (.object "java/lang/Throwable")
  | 3 => (.array (.object "java/lang/StackTraceElement"))
  | 4 => .int
  | _ => (.object "java/util/List")
theorem xN_11 : ∀ a, a < 6 → ∀ b, b < 6 → a ≠ b → (xT_11 a).2.1 ≠ (xT_11 b).2.1 := by decide +kernel
theorem xYo_11 : ∀ k, k < 6 → parseFieldDescriptor (xT_11 k).2.2.1 = some (xY_11 k) := by decide +kernel
theorem xws_11 : ∀ w ∈ u_ws "java/lang/StringIndexOutOfBoundsException" xT_11 6, w ∈ lw_G := x_wsG [1505, 1506, 1507, 1508, 1509, 1510] (by decide +kernel) (by decide +kernel)
def xD_11 : List Value := [.null, .null, .null, .null, .int 0, .null]
theorem xDo_11 {ad : Nat → Nat} : ∀ j, j < 6 → defaultValue (xY_11 j) = vp_V (xD_11.map (x_v ad)) j := x_dv 6 (by decide +kernel)
def xT_12 : u_T := fun k => match k with
  | 0 => ("java/lang/Throwable", "backtrace", "Ljava/lang/Object;", false)
  | 1 => ("java/lang/Throwable", "detailMessage", "Ljava/lang/String;", false)
  | 2 => ("java/lang/Throwable", "cause", "Ljava/lang/Throwable;", false)
  | 3 => ("java/lang/Throwable", "stackTrace", "[Ljava/lang/StackTraceElement;", false)
  | 4 => ("java/lang/Throwable", "depth", "I", false)
  | _ => ("java/lang/Throwable", "suppressedExceptions", "Ljava/util/List;", false)
def xY_12 : Nat → FieldType := fun k => match k with
  | 0 => (.object "java/lang/Object")
  | 1 => (.object "java/lang/String")
  | 2 => (.object "java/lang/Throwable")
  | 3 => (.array (.object "java/lang/StackTraceElement"))
  | 4 => .int
  | _ => (.object "java/util/List")
theorem xN_12 : ∀ a, a < 6 → ∀ b, b < 6 → a ≠ b → (xT_12 a).2.1 ≠ (xT_12 b).2.1 := by decide +kernel
theorem xYo_12 : ∀ k, k < 6 → parseFieldDescriptor (xT_12 k).2.2.1 = some (xY_12 k) := by decide +kernel
theorem xws_12 : ∀ w ∈ u_ws "java/lang/ArrayIndexOutOfBoundsException" xT_12 6, w ∈ lw_G := x_wsG [1536, 1537, 1538, 1539, 1540, 1541] (by decide +kernel) (by decide +kernel)
def xD_12 : List Value := [.null, .null, .null, .null, .int 0, .null]
theorem xDo_12 {ad : Nat → Nat} : ∀ j, j < 6 → defaultValue (xY_12 j) = vp_V (xD_12.map (x_v ad)) j := x_dv 6 (by decide +kernel)
def xT_13 : u_T := fun k => match k with
  | 0 => ("RelayHall$Queue", "name", "Ljava/lang/String;", true)
  | 1 => ("RelayHall$Queue", "bits", "I", true)
  | 2 => ("RelayHall$Queue", "owner", "LRelayHall$Connection;", true)
  | 3 => ("RelayHall$Queue", "kept", "Z", true)
  | 4 => ("RelayHall$Queue", "autoDelete", "Z", true)
  | 5 => ("RelayHall$Queue", "max", "I", false)
  | 6 => ("RelayHall$Queue", "ttl", "I", false)
  | 7 => ("RelayHall$Queue", "pri", "I", false)
  | 8 => ("RelayHall$Queue", "dlx", "Ljava/lang/String;", false)
  | 9 => ("RelayHall$Queue", "dlk", "Ljava/lang/String;", false)
  | 10 => ("RelayHall$Queue", "ready", "Ljava/util/ArrayList;", true)
  | 11 => ("RelayHall$Queue", "unacked", "I", false)
  | 12 => ("RelayHall$Queue", "lastServed", "LRelayHall$Consumer;", false)
  | 13 => ("RelayHall$Queue", "gone", "Z", false)
  | _ => ("RelayHall$Durable", "safe", "Z", false)
def xY_13 : Nat → FieldType := fun k => match k with
  | 0 => (.object "java/lang/String")
  | 1 => .int
  | 2 => (.object "RelayHall$Connection")
  | 3 => .boolean
  | 4 => .boolean
  | 5 => .int
  | 6 => .int
  | 7 => .int
  | 8 => (.object "java/lang/String")
  | 9 => (.object "java/lang/String")
  | 10 => (.object "java/util/ArrayList")
  | 11 => .int
  | 12 => (.object "RelayHall$Consumer")
  | 13 => .boolean
  | _ => .boolean
theorem xN_13 : ∀ a, a < 15 → ∀ b, b < 15 → a ≠ b → (xT_13 a).2.1 ≠ (xT_13 b).2.1 := by decide +kernel
theorem xYo_13 : ∀ k, k < 15 → parseFieldDescriptor (xT_13 k).2.2.1 = some (xY_13 k) := by decide +kernel
theorem xws_13 : ∀ w ∈ u_ws "RelayHall$Queue" xT_13 15, w ∈ lw_G := x_wsG [1588, 1590, 1592, 1594, 1596, 1598, 1600, 1602, 1604, 1606, 1608, 1610, 1612, 1614, 1616] (by decide +kernel) (by decide +kernel)
def xD_13 : List Value := [.null, .int 0, .null, .int 0, .int 0, .int 0, .int 0, .int 0, .null, .null, .null, .int 0, .null, .int 0, .int 0]
theorem xDo_13 {ad : Nat → Nat} : ∀ j, j < 15 → defaultValue (xY_13 j) = vp_V (xD_13.map (x_v ad)) j := x_dv 15 (by decide +kernel)
def xT_14 : u_T := fun k => match k with
  | 0 => ("RelayHall$Binding", "exchange", "LRelayHall$Exchange;", true)
  | 1 => ("RelayHall$Binding", "queue", "LRelayHall$Queue;", true)
  | 2 => ("RelayHall$Binding", "key", "Ljava/lang/String;", true)
  | 3 => ("RelayHall$Binding", "table", "LRelayHall$Table;", true)
  | 4 => ("RelayHall$Binding", "matchEntry", "I", true)
  | 5 => ("RelayHall$Binding", "any", "Z", true)
  | _ => ("RelayHall$Durable", "safe", "Z", false)
def xY_14 : Nat → FieldType := fun k => match k with
  | 0 => (.object "RelayHall$Exchange")
  | 1 => (.object "RelayHall$Queue")
  | 2 => (.object "java/lang/String")
  | 3 => (.object "RelayHall$Table")
  | 4 => .int
  | 5 => .boolean
  | _ => .boolean
theorem xN_14 : ∀ a, a < 7 → ∀ b, b < 7 → a ≠ b → (xT_14 a).2.1 ≠ (xT_14 b).2.1 := by decide +kernel
theorem xYo_14 : ∀ k, k < 7 → parseFieldDescriptor (xT_14 k).2.2.1 = some (xY_14 k) := by decide +kernel
theorem xws_14 : ∀ w ∈ u_ws "RelayHall$Binding" xT_14 7, w ∈ lw_G := x_wsG [1679, 1681, 1683, 1685, 1687, 1689, 1691] (by decide +kernel) (by decide +kernel)
def xD_14 : List Value := [.null, .null, .null, .null, .int 0, .int 0, .int 0]
theorem xDo_14 {ad : Nat → Nat} : ∀ j, j < 7 → defaultValue (xY_14 j) = vp_V (xD_14.map (x_v ad)) j := x_dv 7 (by decide +kernel)
def xT_15 : u_T := fun k => match k with
  | 0 => ("RelayHall$Consumer", "channel", "LRelayHall$Channel;", true)
  | 1 => ("RelayHall$Consumer", "queue", "LRelayHall$Queue;", true)
  | 2 => ("RelayHall$Consumer", "tag", "Ljava/lang/String;", true)
  | 3 => ("RelayHall$Consumer", "noAck", "Z", true)
  | 4 => ("RelayHall$Consumer", "alone", "Z", true)
  | 5 => ("RelayHall$Consumer", "limit", "I", true)
  | _ => ("RelayHall$Consumer", "unacked", "I", false)
def xY_15 : Nat → FieldType := fun k => match k with
  | 0 => (.object "RelayHall$Channel")
  | 1 => (.object "RelayHall$Queue")
  | 2 => (.object "java/lang/String")
  | 3 => .boolean
  | 4 => .boolean
  | 5 => .int
  | _ => .int
theorem xN_15 : ∀ a, a < 7 → ∀ b, b < 7 → a ≠ b → (xT_15 a).2.1 ≠ (xT_15 b).2.1 := by decide +kernel
theorem xYo_15 : ∀ k, k < 7 → parseFieldDescriptor (xT_15 k).2.2.1 = some (xY_15 k) := by decide +kernel
theorem xws_15 : ∀ w ∈ u_ws "RelayHall$Consumer" xT_15 7, w ∈ lw_G := x_wsG [1788, 1790, 1792, 1794, 1796, 1798, 1800] (by decide +kernel) (by decide +kernel)
def xD_15 : List Value := [.null, .null, .null, .int 0, .int 0, .int 0, .int 0]
theorem xDo_15 {ad : Nat → Nat} : ∀ j, j < 7 → defaultValue (xY_15 j) = vp_V (xD_15.map (x_v ad)) j := x_dv 7 (by decide +kernel)
def xT_16 : u_T := fun k => match k with
  | 0 => ("RelayHall$Message", "exchange", "Ljava/lang/String;", true)
  | 1 => ("RelayHall$Message", "key", "Ljava/lang/String;", true)
  | 2 => ("RelayHall$Message", "mandatory", "Z", true)
  | 3 => ("RelayHall$Message", "priority", "I", false)
  | 4 => ("RelayHall$Message", "persistent", "Z", false)
  | 5 => ("RelayHall$Message", "expiration", "J", false)
  | 6 => ("RelayHall$Message", "headers", "LRelayHall$Table;", false)
  | 7 => ("RelayHall$Message", "body", "[B", false)
  | 8 => ("RelayHall$Message", "deaths", "I", false)
  | 9 => ("RelayHall$Message", "queue", "LRelayHall$Queue;", false)
  | 10 => ("RelayHall$Message", "recorded", "Z", false)
  | 11 => ("RelayHall$Message", "number", "I", false)
  | 12 => ("RelayHall$Message", "rank", "I", false)
  | 13 => ("RelayHall$Message", "came", "I", false)
  | 14 => ("RelayHall$Message", "redelivered", "Z", false)
  | 15 => ("RelayHall$Message", "tag", "I", false)
  | 16 => ("RelayHall$Message", "consumer", "LRelayHall$Consumer;", false)
  | 17 => ("RelayHall$Message", "mark", "I", false)
  | _ => ("RelayHall$Durable", "safe", "Z", false)
def xY_16 : Nat → FieldType := fun k => match k with
  | 0 => (.object "java/lang/String")
  | 1 => (.object "java/lang/String")
  | 2 => .boolean
  | 3 => .int
  | 4 => .boolean
  | 5 => .long
  | 6 => (.object "RelayHall$Table")
  | 7 => (.array .byte)
  | 8 => .int
  | 9 => (.object "RelayHall$Queue")
  | 10 => .boolean
  | 11 => .int
  | 12 => .int
  | 13 => .int
  | 14 => .boolean
  | 15 => .int
  | 16 => (.object "RelayHall$Consumer")
  | 17 => .int
  | _ => .boolean
theorem xN_16 : ∀ a, a < 19 → ∀ b, b < 19 → a ≠ b → (xT_16 a).2.1 ≠ (xT_16 b).2.1 := by decide +kernel
theorem xYo_16 : ∀ k, k < 19 → parseFieldDescriptor (xT_16 k).2.2.1 = some (xY_16 k) := by decide +kernel
theorem xws_16 : ∀ w ∈ u_ws "RelayHall$Message" xT_16 19, w ∈ lw_G := x_wsG [1865, 1867, 1869, 1871, 1873, 1875, 1877, 1879, 1881, 1883, 1885, 1887, 1889, 1891, 1893, 1895, 1897, 1899, 1901] (by decide +kernel) (by decide +kernel)
def xD_16 : List Value := [.null, .null, .int 0, .int 0, .int 0, .long 0, .null, .null, .int 0, .null, .int 0, .int 0, .int 0, .int 0, .int 0, .int 0, .null, .int 0, .int 0]
theorem xDo_16 {ad : Nat → Nat} : ∀ j, j < 19 → defaultValue (xY_16 j) = vp_V (xD_16.map (x_v ad)) j := x_dv 19 (by decide +kernel)
def xT_17 : u_T := fun k => match k with
  | 0 => ("java/lang/Throwable", "cause", "Ljava/lang/Throwable;", false)
  | 1 => ("java/lang/Throwable", "stackTrace", "[Ljava/lang/StackTraceElement;", false)
  | 2 => ("java/lang/Throwable", "suppressedExceptions", "Ljava/util/List;", false)
  | 3 => ("java/lang/Throwable", "detailMessage", "Ljava/lang/String;", false)
  | 4 => ("java/lang/Throwable", "backtrace", "Ljava/lang/Object;", false)
  | _ => ("java/lang/Throwable", "depth", "I", false)
def xY_17 : Nat → FieldType := fun k => match k with
  | 0 => (.object "java/lang/Throwable")
  | 1 => (.array (.object "java/lang/StackTraceElement"))
  | 2 => (.object "java/util/List")
  | 3 => (.object "java/lang/String")
  | 4 => (.object "java/lang/Object")
  | _ => .int
theorem xN_17 : ∀ a, a < 6 → ∀ b, b < 6 → a ≠ b → (xT_17 a).2.1 ≠ (xT_17 b).2.1 := by decide +kernel
theorem xYo_17 : ∀ k, k < 6 → parseFieldDescriptor (xT_17 k).2.2.1 = some (xY_17 k) := by decide +kernel
theorem xws_17 : ∀ w ∈ u_ws "java/lang/IndexOutOfBoundsException" xT_17 6, w ∈ lw_G := x_wsG [1992, 1993, 1994, 1995, 1996, 2009] (by decide +kernel) (by decide +kernel)
def xD_17 : List Value := [.null, .null, .null, .null, .null, .int 0]
theorem xDo_17 {ad : Nat → Nat} : ∀ j, j < 6 → defaultValue (xY_17 j) = vp_V (xD_17.map (x_v ad)) j := x_dv 6 (by decide +kernel)
def xT_18 : u_T := fun k => match k with
  | _ => ("java/lang/Integer", "value", "I", true)
def xY_18 : Nat → FieldType := fun k => match k with
  | _ => .int
theorem xN_18 : ∀ a, a < 1 → ∀ b, b < 1 → a ≠ b → (xT_18 a).2.1 ≠ (xT_18 b).2.1 := by decide +kernel
theorem xYo_18 : ∀ k, k < 1 → parseFieldDescriptor (xT_18 k).2.2.1 = some (xY_18 k) := by decide +kernel
theorem xws_18 : ∀ w ∈ u_ws "java/lang/Integer" xT_18 1, w ∈ lw_G := x_wsG [2131] (by decide +kernel) (by decide +kernel)
def xD_18 : List Value := [.int 0]
theorem xDo_18 {ad : Nat → Nat} : ∀ j, j < 1 → defaultValue (xY_18 j) = vp_V (xD_18.map (x_v ad)) j := x_dv 1 (by decide +kernel)
def xT_19 : u_T := fun k => match k with
  | 0 => ("java/lang/Throwable", "cause", "Ljava/lang/Throwable;", false)
  | 1 => ("java/lang/Throwable", "stackTrace", "[Ljava/lang/StackTraceElement;", false)
  | 2 => ("java/lang/Throwable", "suppressedExceptions", "Ljava/util/List;", false)
  | 3 => ("java/lang/Throwable", "detailMessage", "Ljava/lang/String;", false)
  | 4 => ("java/lang/Throwable", "backtrace", "Ljava/lang/Object;", false)
  | _ => ("java/lang/Throwable", "depth", "I", false)
def xY_19 : Nat → FieldType := fun k => match k with
  | 0 => (.object "java/lang/Throwable")
  | 1 => (.array (.object "java/lang/StackTraceElement"))
  | 2 => (.object "java/util/List")
  | 3 => (.object "java/lang/String")
  | 4 => (.object "java/lang/Object")
  | _ => .int
theorem xN_19 : ∀ a, a < 6 → ∀ b, b < 6 → a ≠ b → (xT_19 a).2.1 ≠ (xT_19 b).2.1 := by decide +kernel
theorem xYo_19 : ∀ k, k < 6 → parseFieldDescriptor (xT_19 k).2.2.1 = some (xY_19 k) := by decide +kernel
theorem xws_19 : ∀ w ∈ u_ws "java/util/NoSuchElementException" xT_19 6, w ∈ lw_G := x_wsG [2254, 2255, 2256, 2257, 2258, 2263] (by decide +kernel) (by decide +kernel)
def xD_19 : List Value := [.null, .null, .null, .null, .null, .int 0]
theorem xDo_19 {ad : Nat → Nat} : ∀ j, j < 6 → defaultValue (xY_19 j) = vp_V (xD_19.map (x_v ad)) j := x_dv 6 (by decide +kernel)
def xT_20 : u_T := fun k => match k with
  | 0 => ("RelayHallModel", "connections", "[LRelayHallModel$Connection;", true)
  | 1 => ("RelayHallModel", "exchanges", "[LRelayHallModel$Exchange;", true)
  | 2 => ("RelayHallModel", "queues", "[LRelayHallModel$Queue;", true)
  | 3 => ("RelayHallModel", "bindings", "[LRelayHallModel$Binding;", true)
  | 4 => ("RelayHallModel", "consumers", "[LRelayHallModel$Consumer;", true)
  | 5 => ("RelayHallModel", "exchangeMany", "I", false)
  | 6 => ("RelayHallModel", "queueMany", "I", false)
  | 7 => ("RelayHallModel", "bindingMany", "I", false)
  | 8 => ("RelayHallModel", "consumerMany", "I", false)
  | 9 => ("RelayHallModel", "messages", "I", false)
  | 10 => ("RelayHallModel", "lastNumber", "I", false)
  | 11 => ("RelayHallModel", "generated", "I", false)
  | 12 => ("RelayHallModel", "clock", "I", false)
  | 13 => ("RelayHallModel", "deadOnes", "I", false)
  | 14 => ("RelayHallModel", "dead", "[LRelayHallModel$Dead;", true)
  | 15 => ("RelayHallModel", "deadMany", "I", false)
  | 16 => ("RelayHallModel", "facts", "[LRelayHallModel$Fact;", false)
  | 17 => ("RelayHallModel", "factMany", "I", false)
  | 18 => ("RelayHallModel", "safeExchanges", "[LRelayHallModel$Exchange;", true)
  | 19 => ("RelayHallModel", "safeQueues", "[LRelayHallModel$Queue;", true)
  | 20 => ("RelayHallModel", "safeBindings", "[LRelayHallModel$Binding;", true)
  | 21 => ("RelayHallModel", "safeEntries", "[LRelayHallModel$Entry;", false)
  | 22 => ("RelayHallModel", "safeExchangeMany", "I", false)
  | 23 => ("RelayHallModel", "safeQueueMany", "I", false)
  | 24 => ("RelayHallModel", "safeBindingMany", "I", false)
  | 25 => ("RelayHallModel", "safeEntryMany", "I", false)
  | 26 => ("RelayHallModel", "tape", "[B", true)
  | 27 => ("RelayHallModel", "tapeLong", "I", false)
  | 28 => ("RelayHallModel", "thrown", "I", false)
  | 29 => ("RelayHallModel", "frame", "[B", true)
  | 30 => ("RelayHallModel", "frameLong", "I", false)
  | 31 => ("RelayHallModel", "at", "I", false)
  | 32 => ("RelayHallModel", "theClass", "I", false)
  | 33 => ("RelayHallModel", "theMethod", "I", false)
  | 34 => ("RelayHallModel", "bad", "Z", false)
  | 35 => ("RelayHallModel", "draft", "[B", true)
  | 36 => ("RelayHallModel", "draftLong", "I", false)
  | 37 => ("RelayHallModel", "sizeAt", "I", false)
  | 38 => ("RelayHallModel", "patternFrom", "[I", true)
  | 39 => ("RelayHallModel", "patternTo", "[I", true)
  | 40 => ("RelayHallModel", "keyFrom", "[I", true)
  | 41 => ("RelayHallModel", "keyTo", "[I", true)
  | 42 => ("RelayHallModel", "row", "[Z", true)
  | 43 => ("RelayHallModel", "nextRow", "[Z", true)
  | 44 => ("RelayHallModel", "routed", "[LRelayHallModel$Queue;", true)
  | _ => ("RelayHallModel", "crashes", "I", false)
def xY_20 : Nat → FieldType := fun k => match k with
  | 0 => (.array (.object "RelayHallModel$Connection"))
  | 1 => (.array (.object "RelayHallModel$Exchange"))
  | 2 => (.array (.object "RelayHallModel$Queue"))
  | 3 => (.array (.object "RelayHallModel$Binding"))
  | 4 => (.array (.object "RelayHallModel$Consumer"))
  | 5 => .int
  | 6 => .int
  | 7 => .int
  | 8 => .int
  | 9 => .int
  | 10 => .int
  | 11 => .int
  | 12 => .int
  | 13 => .int
  | 14 => (.array (.object "RelayHallModel$Dead"))
  | 15 => .int
  | 16 => (.array (.object "RelayHallModel$Fact"))
  | 17 => .int
  | 18 => (.array (.object "RelayHallModel$Exchange"))
  | 19 => (.array (.object "RelayHallModel$Queue"))
  | 20 => (.array (.object "RelayHallModel$Binding"))
  | 21 => (.array (.object "RelayHallModel$Entry"))
  | 22 => .int
  | 23 => .int
  | 24 => .int
  | 25 => .int
  | 26 => (.array .byte)
  | 27 => .int
  | 28 => .int
  | 29 => (.array .byte)
  | 30 => .int
  | 31 => .int
  | 32 => .int
  | 33 => .int
  | 34 => .boolean
  | 35 => (.array .byte)
  | 36 => .int
  | 37 => .int
  | 38 => (.array .int)
  | 39 => (.array .int)
  | 40 => (.array .int)
  | 41 => (.array .int)
  | 42 => (.array .boolean)
  | 43 => (.array .boolean)
  | 44 => (.array (.object "RelayHallModel$Queue"))
  | _ => .int
theorem xN_20 : ∀ a, a < 46 → ∀ b, b < 46 → a ≠ b → (xT_20 a).2.1 ≠ (xT_20 b).2.1 := by decide +kernel
theorem xYo_20 : ∀ k, k < 46 → parseFieldDescriptor (xT_20 k).2.2.1 = some (xY_20 k) := by decide +kernel
theorem xws_20 : ∀ w ∈ u_ws "RelayHallModel" xT_20 46, w ∈ lw_G := x_wsG [2545, 2547, 2549, 2551, 2553, 2555, 2557, 2559, 2561, 2563, 2565, 2567, 2569, 2571, 2573, 2575, 2577, 2579, 2581, 2583, 2585, 2587, 2589, 2591, 2593, 2595, 2597, 2599, 2601, 2603, 2605, 2607, 2609, 2611, 2613, 2615, 2617, 2619, 2621, 2623, 2625, 2627, 2629, 2631, 2633, 2635] (by decide +kernel) (by decide +kernel)
def xD_20 : List Value := [.null, .null, .null, .null, .null, .int 0, .int 0, .int 0, .int 0, .int 0, .int 0, .int 0, .int 0, .int 0, .null, .int 0, .null, .int 0, .null, .null, .null, .null, .int 0, .int 0, .int 0, .int 0, .null, .int 0, .int 0, .null, .int 0, .int 0, .int 0, .int 0, .int 0, .null, .int 0, .int 0, .null, .null, .null, .null, .null, .null, .null, .int 0]
theorem xDo_20 {ad : Nat → Nat} : ∀ j, j < 46 → defaultValue (xY_20 j) = vp_V (xD_20.map (x_v ad)) j := x_dv 46 (by decide +kernel)
def xT_21 : u_T := fun k => match k with
  | 0 => ("RelayHallModel$Connection", "number", "I", false)
  | 1 => ("RelayHallModel$Connection", "state", "I", false)
  | 2 => ("RelayHallModel$Connection", "heartbeat", "I", false)
  | 3 => ("RelayHallModel$Connection", "inLong", "I", false)
  | 4 => ("RelayHallModel$Connection", "outFrom", "I", false)
  | 5 => ("RelayHallModel$Connection", "outLong", "I", false)
  | 6 => ("RelayHallModel$Connection", "lastIn", "I", false)
  | 7 => ("RelayHallModel$Connection", "lastOut", "I", false)
  | 8 => ("RelayHallModel$Connection", "closingAt", "I", false)
  | 9 => ("RelayHallModel$Connection", "deaf", "Z", false)
  | 10 => ("RelayHallModel$Connection", "in", "[B", true)
  | 11 => ("RelayHallModel$Connection", "out", "[B", true)
  | _ => ("RelayHallModel$Connection", "channels", "[LRelayHallModel$Channel;", true)
def xY_21 : Nat → FieldType := fun k => match k with
  | 0 => .int
  | 1 => .int
  | 2 => .int
  | 3 => .int
  | 4 => .int
  | 5 => .int
  | 6 => .int
  | 7 => .int
  | 8 => .int
  | 9 => .boolean
  | 10 => (.array .byte)
  | 11 => (.array .byte)
  | _ => (.array (.object "RelayHallModel$Channel"))
theorem xN_21 : ∀ a, a < 13 → ∀ b, b < 13 → a ≠ b → (xT_21 a).2.1 ≠ (xT_21 b).2.1 := by decide +kernel
theorem xYo_21 : ∀ k, k < 13 → parseFieldDescriptor (xT_21 k).2.2.1 = some (xY_21 k) := by decide +kernel
theorem xws_21 : ∀ w ∈ u_ws "RelayHallModel$Connection" xT_21 13, w ∈ lw_G := x_wsG [2400, 2402, 2404, 2406, 2408, 2410, 2412, 2414, 2416, 2418, 2420, 2422, 2424] (by decide +kernel) (by decide +kernel)
def xD_21 : List Value := [.int 0, .int 0, .int 0, .int 0, .int 0, .int 0, .int 0, .int 0, .int 0, .int 0, .null, .null, .null]
theorem xDo_21 {ad : Nat → Nat} : ∀ j, j < 13 → defaultValue (xY_21 j) = vp_V (xD_21.map (x_v ad)) j := x_dv 13 (by decide +kernel)
def xT_22 : u_T := fun k => match k with
  | 0 => ("RelayHallModel$Channel", "connection", "LRelayHallModel$Connection;", false)
  | 1 => ("RelayHallModel$Channel", "number", "I", false)
  | 2 => ("RelayHallModel$Channel", "state", "I", false)
  | 3 => ("RelayHallModel$Channel", "mode", "I", false)
  | 4 => ("RelayHallModel$Channel", "limit", "I", false)
  | 5 => ("RelayHallModel$Channel", "comingLimit", "I", false)
  | 6 => ("RelayHallModel$Channel", "tag", "I", false)
  | 7 => ("RelayHallModel$Channel", "confirm", "I", false)
  | 8 => ("RelayHallModel$Channel", "tags", "I", false)
  | 9 => ("RelayHallModel$Channel", "keeps", "I", false)
  | 10 => ("RelayHallModel$Channel", "unacked", "I", false)
  | 11 => ("RelayHallModel$Channel", "waits", "I", false)
  | 12 => ("RelayHallModel$Channel", "due", "I", false)
  | 13 => ("RelayHallModel$Channel", "active", "Z", false)
  | 14 => ("RelayHallModel$Channel", "lastQueue", "[B", false)
  | 15 => ("RelayHallModel$Channel", "content", "LRelayHallModel$Content;", false)
  | 16 => ("RelayHallModel$Channel", "sent", "[LRelayHallModel$Sent;", false)
  | 17 => ("RelayHallModel$Channel", "kept", "[LRelayHallModel$Kept;", true)
  | _ => ("RelayHallModel$Channel", "confirms", "[I", false)
def xY_22 : Nat → FieldType := fun k => match k with
  | 0 => (.object "RelayHallModel$Connection")
  | 1 => .int
  | 2 => .int
  | 3 => .int
  | 4 => .int
  | 5 => .int
  | 6 => .int
  | 7 => .int
  | 8 => .int
  | 9 => .int
  | 10 => .int
  | 11 => .int
  | 12 => .int
  | 13 => .boolean
  | 14 => (.array .byte)
  | 15 => (.object "RelayHallModel$Content")
  | 16 => (.array (.object "RelayHallModel$Sent"))
  | 17 => (.array (.object "RelayHallModel$Kept"))
  | _ => (.array .int)
theorem xN_22 : ∀ a, a < 19 → ∀ b, b < 19 → a ≠ b → (xT_22 a).2.1 ≠ (xT_22 b).2.1 := by decide +kernel
theorem xYo_22 : ∀ k, k < 19 → parseFieldDescriptor (xT_22 k).2.2.1 = some (xY_22 k) := by decide +kernel
theorem xws_22 : ∀ w ∈ u_ws "RelayHallModel$Channel" xT_22 19, w ∈ lw_G := x_wsG [2460, 2462, 2464, 2466, 2468, 2470, 2472, 2474, 2476, 2478, 2480, 2482, 2484, 2486, 2488, 2490, 2492, 2494, 2496] (by decide +kernel) (by decide +kernel)
def xD_22 : List Value := [.null, .int 0, .int 0, .int 0, .int 0, .int 0, .int 0, .int 0, .int 0, .int 0, .int 0, .int 0, .int 0, .int 0, .null, .null, .null, .null, .null]
theorem xDo_22 {ad : Nat → Nat} : ∀ j, j < 19 → defaultValue (xY_22 j) = vp_V (xD_22.map (x_v ad)) j := x_dv 19 (by decide +kernel)
def xT_23 : u_T := fun k => match k with
  | 0 => ("RelayHallModel$Fact", "kind", "I", false)
  | 1 => ("RelayHallModel$Fact", "exchange", "LRelayHallModel$Exchange;", false)
  | 2 => ("RelayHallModel$Fact", "queue", "LRelayHallModel$Queue;", false)
  | 3 => ("RelayHallModel$Fact", "binding", "LRelayHallModel$Binding;", false)
  | _ => ("RelayHallModel$Fact", "entry", "LRelayHallModel$Entry;", false)
def xY_23 : Nat → FieldType := fun k => match k with
  | 0 => .int
  | 1 => (.object "RelayHallModel$Exchange")
  | 2 => (.object "RelayHallModel$Queue")
  | 3 => (.object "RelayHallModel$Binding")
  | _ => (.object "RelayHallModel$Entry")
theorem xN_23 : ∀ a, a < 5 → ∀ b, b < 5 → a ≠ b → (xT_23 a).2.1 ≠ (xT_23 b).2.1 := by decide +kernel
theorem xYo_23 : ∀ k, k < 5 → parseFieldDescriptor (xT_23 k).2.2.1 = some (xY_23 k) := by decide +kernel
theorem xws_23 : ∀ w ∈ u_ws "RelayHallModel$Fact" xT_23 5, w ∈ lw_G := x_wsG [2753, 2755, 2757, 2759, 2761] (by decide +kernel) (by decide +kernel)
def xD_23 : List Value := [.int 0, .null, .null, .null, .null]
theorem xDo_23 {ad : Nat → Nat} : ∀ j, j < 5 → defaultValue (xY_23 j) = vp_V (xD_23.map (x_v ad)) j := x_dv 5 (by decide +kernel)
def xT_24 : u_T := fun k => match k with
  | 0 => ("RelayHallModel$Dead", "entry", "LRelayHallModel$Entry;", false)
  | 1 => ("RelayHallModel$Dead", "exchange", "[B", false)
  | _ => ("RelayHallModel$Dead", "key", "[B", false)
def xY_24 : Nat → FieldType := fun k => match k with
  | 0 => (.object "RelayHallModel$Entry")
  | 1 => (.array .byte)
  | _ => (.array .byte)
theorem xN_24 : ∀ a, a < 3 → ∀ b, b < 3 → a ≠ b → (xT_24 a).2.1 ≠ (xT_24 b).2.1 := by decide +kernel
theorem xYo_24 : ∀ k, k < 3 → parseFieldDescriptor (xT_24 k).2.2.1 = some (xY_24 k) := by decide +kernel
theorem xws_24 : ∀ w ∈ u_ws "RelayHallModel$Dead" xT_24 3, w ∈ lw_G := x_wsG [2837, 2839, 2841] (by decide +kernel) (by decide +kernel)
def xD_24 : List Value := [.null, .null, .null]
theorem xDo_24 {ad : Nat → Nat} : ∀ j, j < 3 → defaultValue (xY_24 j) = vp_V (xD_24.map (x_v ad)) j := x_dv 3 (by decide +kernel)
def xT_25 : u_T := fun k => match k with
  | 0 => ("RelayHallModel$Entry", "content", "LRelayHallModel$Content;", false)
  | 1 => ("RelayHallModel$Entry", "exchange", "[B", false)
  | 2 => ("RelayHallModel$Entry", "key", "[B", false)
  | 3 => ("RelayHallModel$Entry", "expiration", "J", false)
  | 4 => ("RelayHallModel$Entry", "queue", "LRelayHallModel$Queue;", false)
  | 5 => ("RelayHallModel$Entry", "number", "I", false)
  | 6 => ("RelayHallModel$Entry", "came", "I", false)
  | 7 => ("RelayHallModel$Entry", "deaths", "I", false)
  | 8 => ("RelayHallModel$Entry", "state", "I", false)
  | _ => ("RelayHallModel$Entry", "redelivered", "Z", false)
def xY_25 : Nat → FieldType := fun k => match k with
  | 0 => (.object "RelayHallModel$Content")
  | 1 => (.array .byte)
  | 2 => (.array .byte)
  | 3 => .long
  | 4 => (.object "RelayHallModel$Queue")
  | 5 => .int
  | 6 => .int
  | 7 => .int
  | 8 => .int
  | _ => .boolean
theorem xN_25 : ∀ a, a < 10 → ∀ b, b < 10 → a ≠ b → (xT_25 a).2.1 ≠ (xT_25 b).2.1 := by decide +kernel
theorem xYo_25 : ∀ k, k < 10 → parseFieldDescriptor (xT_25 k).2.2.1 = some (xY_25 k) := by decide +kernel
theorem xws_25 : ∀ w ∈ u_ws "RelayHallModel$Entry" xT_25 10, w ∈ lw_G := x_wsG [2948, 2950, 2952, 2954, 2956, 2958, 2960, 2962, 2964, 2966] (by decide +kernel) (by decide +kernel)
def xD_25 : List Value := [.null, .null, .null, .long 0, .null, .int 0, .int 0, .int 0, .int 0, .int 0]
theorem xDo_25 {ad : Nat → Nat} : ∀ j, j < 10 → defaultValue (xY_25 j) = vp_V (xD_25.map (x_v ad)) j := x_dv 10 (by decide +kernel)
def xT_26 : u_T := fun k => match k with
  | 0 => ("RelayHallModel$Sent", "tag", "I", false)
  | 1 => ("RelayHallModel$Sent", "entry", "LRelayHallModel$Entry;", false)
  | 2 => ("RelayHallModel$Sent", "consumer", "LRelayHallModel$Consumer;", false)
  | _ => ("RelayHallModel$Sent", "done", "Z", false)
def xY_26 : Nat → FieldType := fun k => match k with
  | 0 => .int
  | 1 => (.object "RelayHallModel$Entry")
  | 2 => (.object "RelayHallModel$Consumer")
  | _ => .boolean
theorem xN_26 : ∀ a, a < 4 → ∀ b, b < 4 → a ≠ b → (xT_26 a).2.1 ≠ (xT_26 b).2.1 := by decide +kernel
theorem xYo_26 : ∀ k, k < 4 → parseFieldDescriptor (xT_26 k).2.2.1 = some (xY_26 k) := by decide +kernel
theorem xws_26 : ∀ w ∈ u_ws "RelayHallModel$Sent" xT_26 4, w ∈ lw_G := x_wsG [2999, 3001, 3003, 3005] (by decide +kernel) (by decide +kernel)
def xD_26 : List Value := [.int 0, .null, .null, .int 0]
theorem xDo_26 {ad : Nat → Nat} : ∀ j, j < 4 → defaultValue (xY_26 j) = vp_V (xD_26.map (x_v ad)) j := x_dv 4 (by decide +kernel)
def xT_27 : u_T := fun k => match k with
  | 0 => ("RelayHallModel$Table", "many", "I", false)
  | 1 => ("RelayHallModel$Table", "names", "[[B", true)
  | 2 => ("RelayHallModel$Table", "kinds", "[I", true)
  | 3 => ("RelayHallModel$Table", "numbers", "[I", true)
  | 4 => ("RelayHallModel$Table", "texts", "[[B", true)
  | _ => ("RelayHallModel$Table", "raw", "[B", false)
def xY_27 : Nat → FieldType := fun k => match k with
  | 0 => .int
  | 1 => (.array (.array .byte))
  | 2 => (.array .int)
  | 3 => (.array .int)
  | 4 => (.array (.array .byte))
  | _ => (.array .byte)
theorem xN_27 : ∀ a, a < 6 → ∀ b, b < 6 → a ≠ b → (xT_27 a).2.1 ≠ (xT_27 b).2.1 := by decide +kernel
theorem xYo_27 : ∀ k, k < 6 → parseFieldDescriptor (xT_27 k).2.2.1 = some (xY_27 k) := by decide +kernel
theorem xws_27 : ∀ w ∈ u_ws "RelayHallModel$Table" xT_27 6, w ∈ lw_G := x_wsG [3104, 3106, 3108, 3110, 3112, 3114] (by decide +kernel) (by decide +kernel)
def xD_27 : List Value := [.int 0, .null, .null, .null, .null, .null]
theorem xDo_27 {ad : Nat → Nat} : ∀ j, j < 6 → defaultValue (xY_27 j) = vp_V (xD_27.map (x_v ad)) j := x_dv 6 (by decide +kernel)
def xT_28 : u_T := fun k => match k with
  | 0 => ("RelayHallModel$Exchange", "name", "[B", false)
  | 1 => ("RelayHallModel$Exchange", "kind", "I", false)
  | 2 => ("RelayHallModel$Exchange", "durable", "Z", false)
  | 3 => ("RelayHallModel$Exchange", "auto", "Z", false)
  | 4 => ("RelayHallModel$Exchange", "internal", "Z", false)
  | 5 => ("RelayHallModel$Exchange", "there", "Z", false)
  | _ => ("RelayHallModel$Exchange", "alternate", "[B", false)
def xY_28 : Nat → FieldType := fun k => match k with
  | 0 => (.array .byte)
  | 1 => .int
  | 2 => .boolean
  | 3 => .boolean
  | 4 => .boolean
  | 5 => .boolean
  | _ => (.array .byte)
theorem xN_28 : ∀ a, a < 7 → ∀ b, b < 7 → a ≠ b → (xT_28 a).2.1 ≠ (xT_28 b).2.1 := by decide +kernel
theorem xYo_28 : ∀ k, k < 7 → parseFieldDescriptor (xT_28 k).2.2.1 = some (xY_28 k) := by decide +kernel
theorem xws_28 : ∀ w ∈ u_ws "RelayHallModel$Exchange" xT_28 7, w ∈ lw_G := x_wsG [3160, 3162, 3164, 3166, 3168, 3170, 3172] (by decide +kernel) (by decide +kernel)
def xD_28 : List Value := [.null, .int 0, .int 0, .int 0, .int 0, .int 0, .null]
theorem xDo_28 {ad : Nat → Nat} : ∀ j, j < 7 → defaultValue (xY_28 j) = vp_V (xD_28.map (x_v ad)) j := x_dv 7 (by decide +kernel)
def xT_29 : u_T := fun k => match k with
  | 0 => ("RelayHallModel$Queue", "name", "[B", false)
  | 1 => ("RelayHallModel$Queue", "durable", "Z", false)
  | 2 => ("RelayHallModel$Queue", "exclusive", "Z", false)
  | 3 => ("RelayHallModel$Queue", "auto", "Z", false)
  | 4 => ("RelayHallModel$Queue", "there", "Z", false)
  | 5 => ("RelayHallModel$Queue", "owner", "LRelayHallModel$Connection;", false)
  | 6 => ("RelayHallModel$Queue", "max", "I", false)
  | 7 => ("RelayHallModel$Queue", "ttl", "I", false)
  | 8 => ("RelayHallModel$Queue", "pri", "I", false)
  | 9 => ("RelayHallModel$Queue", "dlx", "[B", false)
  | 10 => ("RelayHallModel$Queue", "dlk", "[B", false)
  | 11 => ("RelayHallModel$Queue", "entries", "[LRelayHallModel$Entry;", true)
  | 12 => ("RelayHallModel$Queue", "long1", "I", false)
  | _ => ("RelayHallModel$Queue", "last", "LRelayHallModel$Consumer;", false)
def xY_29 : Nat → FieldType := fun k => match k with
  | 0 => (.array .byte)
  | 1 => .boolean
  | 2 => .boolean
  | 3 => .boolean
  | 4 => .boolean
  | 5 => (.object "RelayHallModel$Connection")
  | 6 => .int
  | 7 => .int
  | 8 => .int
  | 9 => (.array .byte)
  | 10 => (.array .byte)
  | 11 => (.array (.object "RelayHallModel$Entry"))
  | 12 => .int
  | _ => (.object "RelayHallModel$Consumer")
theorem xN_29 : ∀ a, a < 14 → ∀ b, b < 14 → a ≠ b → (xT_29 a).2.1 ≠ (xT_29 b).2.1 := by decide +kernel
theorem xYo_29 : ∀ k, k < 14 → parseFieldDescriptor (xT_29 k).2.2.1 = some (xY_29 k) := by decide +kernel
theorem xws_29 : ∀ w ∈ u_ws "RelayHallModel$Queue" xT_29 14, w ∈ lw_G := x_wsG [3220, 3222, 3224, 3226, 3228, 3230, 3232, 3234, 3236, 3238, 3240, 3242, 3244, 3246] (by decide +kernel) (by decide +kernel)
def xD_29 : List Value := [.null, .int 0, .int 0, .int 0, .int 0, .null, .int 0, .int 0, .int 0, .null, .null, .null, .int 0, .null]
theorem xDo_29 {ad : Nat → Nat} : ∀ j, j < 14 → defaultValue (xY_29 j) = vp_V (xD_29.map (x_v ad)) j := x_dv 14 (by decide +kernel)
def xT_30 : u_T := fun k => match k with
  | 0 => ("RelayHallModel$Binding", "queue", "LRelayHallModel$Queue;", false)
  | 1 => ("RelayHallModel$Binding", "exchange", "LRelayHallModel$Exchange;", false)
  | 2 => ("RelayHallModel$Binding", "key", "[B", false)
  | _ => ("RelayHallModel$Binding", "table", "LRelayHallModel$Table;", false)
def xY_30 : Nat → FieldType := fun k => match k with
  | 0 => (.object "RelayHallModel$Queue")
  | 1 => (.object "RelayHallModel$Exchange")
  | 2 => (.array .byte)
  | _ => (.object "RelayHallModel$Table")
theorem xN_30 : ∀ a, a < 4 → ∀ b, b < 4 → a ≠ b → (xT_30 a).2.1 ≠ (xT_30 b).2.1 := by decide +kernel
theorem xYo_30 : ∀ k, k < 4 → parseFieldDescriptor (xT_30 k).2.2.1 = some (xY_30 k) := by decide +kernel
theorem xws_30 : ∀ w ∈ u_ws "RelayHallModel$Binding" xT_30 4, w ∈ lw_G := x_wsG [3303, 3305, 3307, 3309] (by decide +kernel) (by decide +kernel)
def xD_30 : List Value := [.null, .null, .null, .null]
theorem xDo_30 {ad : Nat → Nat} : ∀ j, j < 4 → defaultValue (xY_30 j) = vp_V (xD_30.map (x_v ad)) j := x_dv 4 (by decide +kernel)
def xT_31 : u_T := fun k => match k with
  | 0 => ("RelayHallModel$Consumer", "tag", "[B", false)
  | 1 => ("RelayHallModel$Consumer", "queue", "LRelayHallModel$Queue;", false)
  | 2 => ("RelayHallModel$Consumer", "channel", "LRelayHallModel$Channel;", false)
  | 3 => ("RelayHallModel$Consumer", "free", "Z", false)
  | 4 => ("RelayHallModel$Consumer", "exclusive", "Z", false)
  | _ => ("RelayHallModel$Consumer", "limit", "I", false)
def xY_31 : Nat → FieldType := fun k => match k with
  | 0 => (.array .byte)
  | 1 => (.object "RelayHallModel$Queue")
  | 2 => (.object "RelayHallModel$Channel")
  | 3 => .boolean
  | 4 => .boolean
  | _ => .int
theorem xN_31 : ∀ a, a < 6 → ∀ b, b < 6 → a ≠ b → (xT_31 a).2.1 ≠ (xT_31 b).2.1 := by decide +kernel
theorem xYo_31 : ∀ k, k < 6 → parseFieldDescriptor (xT_31 k).2.2.1 = some (xY_31 k) := by decide +kernel
theorem xws_31 : ∀ w ∈ u_ws "RelayHallModel$Consumer" xT_31 6, w ∈ lw_G := x_wsG [3356, 3358, 3360, 3362, 3364, 3366] (by decide +kernel) (by decide +kernel)
def xD_31 : List Value := [.null, .null, .null, .int 0, .int 0, .int 0]
theorem xDo_31 {ad : Nat → Nat} : ∀ j, j < 6 → defaultValue (xY_31 j) = vp_V (xD_31.map (x_v ad)) j := x_dv 6 (by decide +kernel)
def xT_32 : u_T := fun k => match k with
  | 0 => ("RelayHallModel$Content", "exchange", "[B", false)
  | 1 => ("RelayHallModel$Content", "key", "[B", false)
  | 2 => ("RelayHallModel$Content", "mandatory", "Z", false)
  | 3 => ("RelayHallModel$Content", "persistent", "Z", false)
  | 4 => ("RelayHallModel$Content", "priority", "I", false)
  | 5 => ("RelayHallModel$Content", "expiration", "J", false)
  | 6 => ("RelayHallModel$Content", "headers", "LRelayHallModel$Table;", false)
  | 7 => ("RelayHallModel$Content", "body", "[B", false)
  | _ => ("RelayHallModel$Content", "got", "I", false)
def xY_32 : Nat → FieldType := fun k => match k with
  | 0 => (.array .byte)
  | 1 => (.array .byte)
  | 2 => .boolean
  | 3 => .boolean
  | 4 => .int
  | 5 => .long
  | 6 => (.object "RelayHallModel$Table")
  | 7 => (.array .byte)
  | _ => .int
theorem xN_32 : ∀ a, a < 9 → ∀ b, b < 9 → a ≠ b → (xT_32 a).2.1 ≠ (xT_32 b).2.1 := by decide +kernel
theorem xYo_32 : ∀ k, k < 9 → parseFieldDescriptor (xT_32 k).2.2.1 = some (xY_32 k) := by decide +kernel
theorem xws_32 : ∀ w ∈ u_ws "RelayHallModel$Content" xT_32 9, w ∈ lw_G := x_wsG [3398, 3400, 3402, 3404, 3406, 3408, 3410, 3412, 3414] (by decide +kernel) (by decide +kernel)
def xD_32 : List Value := [.null, .null, .int 0, .int 0, .int 0, .long 0, .null, .null, .int 0]
theorem xDo_32 {ad : Nat → Nat} : ∀ j, j < 9 → defaultValue (xY_32 j) = vp_V (xD_32.map (x_v ad)) j := x_dv 9 (by decide +kernel)
def xT_33 : u_T := fun k => match k with
  | 0 => ("RelayHallModel$Kept", "content", "LRelayHallModel$Content;", false)
  | 1 => ("RelayHallModel$Kept", "what", "I", false)
  | _ => ("RelayHallModel$Kept", "those", "[LRelayHallModel$Sent;", false)
def xY_33 : Nat → FieldType := fun k => match k with
  | 0 => (.object "RelayHallModel$Content")
  | 1 => .int
  | _ => (.array (.object "RelayHallModel$Sent"))
theorem xN_33 : ∀ a, a < 3 → ∀ b, b < 3 → a ≠ b → (xT_33 a).2.1 ≠ (xT_33 b).2.1 := by decide +kernel
theorem xYo_33 : ∀ k, k < 3 → parseFieldDescriptor (xT_33 k).2.2.1 = some (xY_33 k) := by decide +kernel
theorem xws_33 : ∀ w ∈ u_ws "RelayHallModel$Kept" xT_33 3, w ∈ lw_G := x_wsG [3461, 3463, 3465] (by decide +kernel) (by decide +kernel)
def xD_33 : List Value := [.null, .int 0, .null]
theorem xDo_33 {ad : Nat → Nat} : ∀ j, j < 3 → defaultValue (xY_33 j) = vp_V (xD_33.map (x_v ad)) j := x_dv 3 (by decide +kernel)
end XW
