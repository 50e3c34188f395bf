section XW
def lw_G : List Cond := lw_tbl.filter goodWord
theorem x_gw {w : Cond} (h : w ∈ lw_tbl) (hg : goodWord w = true) : w ∈ lw_G := List.mem_filter.mpr ⟨h, hg⟩
theorem inT_0 : ∀ w ∈ k2_sels lw_privs, w ∈ lw_tbl := fun _ h => List.mem_append_left _ h
theorem inT_1 : ∀ w ∈ tables_1_1, w ∈ lw_tbl := fun _ h => List.mem_append_right _ (List.mem_append_left _ h)
theorem inT_2 : ∀ w ∈ tables_1_2, w ∈ lw_tbl := fun _ h => List.mem_append_right _ (List.mem_append_right _ (List.mem_append_left _ h))
theorem inT_3 : ∀ w ∈ tables_1_3, w ∈ lw_tbl := fun _ h => List.mem_append_right _ (List.mem_append_right _ (List.mem_append_right _ (List.mem_append_left _ h)))
theorem inT_4 : ∀ w ∈ tables_1_4, w ∈ lw_tbl := fun _ h => List.mem_append_right _ (List.mem_append_right _ (List.mem_append_right _ (List.mem_append_right _ (List.mem_append_left _ h))))
theorem inT_5 : ∀ w ∈ tables_1_5, w ∈ lw_tbl := fun _ h => List.mem_append_right _ (List.mem_append_right _ (List.mem_append_right _ (List.mem_append_right _ (List.mem_append_right _ (List.mem_append_left _ h)))))
theorem inT_6 : ∀ w ∈ tables_1_6, w ∈ lw_tbl := fun _ h => List.mem_append_right _ (List.mem_append_right _ (List.mem_append_right _ (List.mem_append_right _ (List.mem_append_right _ (List.mem_append_right _ (List.mem_append_left _ h))))))
theorem inT_7 : ∀ w ∈ tables_1_7, w ∈ lw_tbl := fun _ h => List.mem_append_right _ (List.mem_append_right _ (List.mem_append_right _ (List.mem_append_right _ (List.mem_append_right _ (List.mem_append_right _ (List.mem_append_right _ (List.mem_append_left _ h)))))))
theorem inT_8 : ∀ w ∈ tables_1_8, w ∈ lw_tbl := fun _ h => List.mem_append_right _ (List.mem_append_right _ (List.mem_append_right _ (List.mem_append_right _ (List.mem_append_right _ (List.mem_append_right _ (List.mem_append_right _ (List.mem_append_right _ (List.mem_append_left _ h))))))))
theorem inT_9 : ∀ w ∈ tables_1_9, w ∈ lw_tbl := fun _ h => List.mem_append_right _ (List.mem_append_right _ (List.mem_append_right _ (List.mem_append_right _ (List.mem_append_right _ (List.mem_append_right _ (List.mem_append_right _ (List.mem_append_right _ (List.mem_append_right _ (List.mem_append_left _ h)))))))))
theorem inT_10 : ∀ w ∈ tables_1_10, w ∈ lw_tbl := fun _ h => List.mem_append_right _ (List.mem_append_right _ (List.mem_append_right _ (List.mem_append_right _ (List.mem_append_right _ (List.mem_append_right _ (List.mem_append_right _ (List.mem_append_right _ (List.mem_append_right _ (List.mem_append_right _ (List.mem_append_left _ h))))))))))
theorem inT_11 : ∀ w ∈ tables_1_11, w ∈ lw_tbl := fun _ h => List.mem_append_right _ (List.mem_append_right _ (List.mem_append_right _ (List.mem_append_right _ (List.mem_append_right _ (List.mem_append_right _ (List.mem_append_right _ (List.mem_append_right _ (List.mem_append_right _ (List.mem_append_right _ (List.mem_append_right _ (List.mem_append_left _ h)))))))))))
theorem inT_12 : ∀ w ∈ tables_1_12, w ∈ lw_tbl := fun _ h => List.mem_append_right _ (List.mem_append_right _ (List.mem_append_right _ (List.mem_append_right _ (List.mem_append_right _ (List.mem_append_right _ (List.mem_append_right _ (List.mem_append_right _ (List.mem_append_right _ (List.mem_append_right _ (List.mem_append_right _ (List.mem_append_right _ (List.mem_append_left _ h))))))))))))
theorem inT_13 : ∀ w ∈ tables_1_13, w ∈ lw_tbl := fun _ h => List.mem_append_right _ (List.mem_append_right _ (List.mem_append_right _ (List.mem_append_right _ (List.mem_append_right _ (List.mem_append_right _ (List.mem_append_right _ (List.mem_append_right _ (List.mem_append_right _ (List.mem_append_right _ (List.mem_append_right _ (List.mem_append_right _ (List.mem_append_right _ (List.mem_append_left _ h)))))))))))))
theorem inT_14 : ∀ w ∈ tables_1_14, w ∈ lw_tbl := fun _ h => List.mem_append_right _ (List.mem_append_right _ (List.mem_append_right _ (List.mem_append_right _ (List.mem_append_right _ (List.mem_append_right _ (List.mem_append_right _ (List.mem_append_right _ (List.mem_append_right _ (List.mem_append_right _ (List.mem_append_right _ (List.mem_append_right _ (List.mem_append_right _ (List.mem_append_right _ (List.mem_append_left _ h))))))))))))))
theorem inT_15 : ∀ w ∈ tables_1_15, w ∈ lw_tbl := fun _ h => List.mem_append_right _ (List.mem_append_right _ (List.mem_append_right _ (List.mem_append_right _ (List.mem_append_right _ (List.mem_append_right _ (List.mem_append_right _ (List.mem_append_right _ (List.mem_append_right _ (List.mem_append_right _ (List.mem_append_right _ (List.mem_append_right _ (List.mem_append_right _ (List.mem_append_right _ (List.mem_append_right _ (h)))))))))))))))
def x_nr (v : Value) : Bool := match v with
  | .ref _ => false
  | _ => true
theorem x_dv {ty : Nat → FieldType} {fs : List Value} {ad : Nat → Nat} (N : Nat) (h : ∀ j, j < N → defaultValue (ty j) = vp_V fs j ∧ x_nr (vp_V fs j) = true) : ∀ j, j < N → defaultValue (ty j) = vp_V (fs.map (x_v ad)) j := by
  intro j hj
  obtain ⟨h1, h2⟩ := h j hj
  rw [h1]
  unfold vp_V at h2 ⊢
  by_cases hl : j < fs.length
  · simp only [List.getD_eq_getElem?_getD, List.getElem?_map, List.getElem?_eq_getElem hl, Option.map_some, Option.getD_some] at h2 ⊢
    generalize fs[j] = v at h2 ⊢
    cases v <;> first | rfl | (simp [x_nr] at h2)
  · simp [List.getD_eq_getElem?_getD, List.getElem?_eq_none (Nat.le_of_not_lt hl)]
theorem x_wsG {ws : List Cond} (is : List Nat) (hp : ws = is.filterMap (fun i => lw_tbl[i]?)) (hg : ws.all goodWord = true) : ∀ w ∈ ws, w ∈ lw_G := by
  intro w hw
  have h1 := List.all_eq_true.mp hg w hw
  rw [hp] at hw
  obtain ⟨i, -, hi⟩ := List.mem_filterMap.mp hw
  exact List.mem_filter.mpr ⟨List.mem_of_getElem? hi, h1⟩
def xT_0 : u_T := fun k => match k with
  | 0 => ("RelayHall", "tape", "[B", true)
  | 1 => ("RelayHall", "tapeLength", "I", false)
  | 2 => ("RelayHall", "connections", "[LRelayHall$Connection;", true)
  | 3 => ("RelayHall", "defaultExchange", "LRelayHall$Exchange;", true)
  | 4 => ("RelayHall", "exchanges", "Ljava/util/ArrayList;", true)
  | 5 => ("RelayHall", "queues", "Ljava/util/ArrayList;", true)
  | 6 => ("RelayHall", "bindings", "Ljava/util/ArrayList;", true)
  | 7 => ("RelayHall", "consumers", "Ljava/util/ArrayList;", true)
  | 8 => ("RelayHall", "dead", "Ljava/util/ArrayList;", true)
  | 9 => ("RelayHall", "leaving", "Ljava/util/ArrayList;", true)
  | 10 => ("RelayHall", "targets", "Ljava/util/ArrayList;", true)
  | 11 => ("RelayHall", "log", "LRelayHall$Log;", true)
  | 12 => ("RelayHall", "in", "LRelayHall$Reader;", true)
  | 13 => ("RelayHall", "words", "Ljava/lang/StringBuilder;", true)
  | 14 => ("RelayHall", "blame", "I", false)
  | 15 => ("RelayHall", "clock", "I", false)
  | 16 => ("RelayHall", "held", "I", false)
  | 17 => ("RelayHall", "lastNumber", "I", false)
  | 18 => ("RelayHall", "lastGenerated", "I", false)
  | 19 => ("RelayHall", "deaths", "I", false)
  | _ => ("RelayHall", "crashes", "I", false)
def xY_0 : Nat → FieldType := fun k => match k with
  | 0 => (.array .byte)
  | 1 => .int
  | 2 => (.array (.object "RelayHall$Connection"))
  | 3 => (.object "RelayHall$Exchange")
  | 4 => (.object "java/util/ArrayList")
  | 5 => (.object "java/util/ArrayList")
  | 6 => (.object "java/util/ArrayList")
  | 7 => (.object "java/util/ArrayList")
  | 8 => (.object "java/util/ArrayList")
  | 9 => (.object "java/util/ArrayList")
  | 10 => (.object "java/util/ArrayList")
  | 11 => (.object "RelayHall$Log")
  | 12 => (.object "RelayHall$Reader")
  | 13 => (.object "java/lang/StringBuilder")
  | 14 => .int
  | 15 => .int
  | 16 => .int
  | 17 => .int
  | 18 => .int
  | 19 => .int
  | _ => .int
theorem xN_0 : ∀ a, a < 21 → ∀ b, b < 21 → a ≠ b → (xT_0 a).2.1 ≠ (xT_0 b).2.1 := by decide +kernel
theorem xYo_0 : ∀ k, k < 21 → parseFieldDescriptor (xT_0 k).2.2.1 = some (xY_0 k) := by decide +kernel
theorem xws_0 : ∀ w ∈ u_ws "RelayHall" xT_0 21, w ∈ lw_G := by
  have e : u_ws "RelayHall" xT_0 21 = [Cond.laysFinal "RelayHall" "RelayHall" "tape" "[B", Cond.lays "RelayHall" "RelayHall" "tapeLength" "I", Cond.laysFinal "RelayHall" "RelayHall" "connections" "[LRelayHall$Connection;", Cond.laysFinal "RelayHall" "RelayHall" "defaultExchange" "LRelayHall$Exchange;", Cond.laysFinal "RelayHall" "RelayHall" "exchanges" "Ljava/util/ArrayList;", Cond.laysFinal "RelayHall" "RelayHall" "queues" "Ljava/util/ArrayList;", Cond.laysFinal "RelayHall" "RelayHall" "bindings" "Ljava/util/ArrayList;", Cond.laysFinal "RelayHall" "RelayHall" "consumers" "Ljava/util/ArrayList;", Cond.laysFinal "RelayHall" "RelayHall" "dead" "Ljava/util/ArrayList;", Cond.laysFinal "RelayHall" "RelayHall" "leaving" "Ljava/util/ArrayList;", Cond.laysFinal "RelayHall" "RelayHall" "targets" "Ljava/util/ArrayList;", Cond.laysFinal "RelayHall" "RelayHall" "log" "LRelayHall$Log;", Cond.laysFinal "RelayHall" "RelayHall" "in" "LRelayHall$Reader;", Cond.laysFinal "RelayHall" "RelayHall" "words" "Ljava/lang/StringBuilder;", Cond.lays "RelayHall" "RelayHall" "blame" "I", Cond.lays "RelayHall" "RelayHall" "clock" "I", Cond.lays "RelayHall" "RelayHall" "held" "I", Cond.lays "RelayHall" "RelayHall" "lastNumber" "I", Cond.lays "RelayHall" "RelayHall" "lastGenerated" "I", Cond.lays "RelayHall" "RelayHall" "deaths" "I", Cond.lays "RelayHall" "RelayHall" "crashes" "I"] := by decide +kernel
  rw [e]
  exact (List.forall_mem_cons.mpr ⟨x_gw (inT_2 _ (List.mem_of_getElem? (i := 142) rfl)) (by decide +kernel), (List.forall_mem_cons.mpr ⟨x_gw (inT_2 _ (List.mem_of_getElem? (i := 144) rfl)) (by decide +kernel), (List.forall_mem_cons.mpr ⟨x_gw (inT_2 _ (List.mem_of_getElem? (i := 146) rfl)) (by decide +kernel), (List.forall_mem_cons.mpr ⟨x_gw (inT_2 _ (List.mem_of_getElem? (i := 148) rfl)) (by decide +kernel), (List.forall_mem_cons.mpr ⟨x_gw (inT_2 _ (List.mem_of_getElem? (i := 150) rfl)) (by decide +kernel), (List.forall_mem_cons.mpr ⟨x_gw (inT_2 _ (List.mem_of_getElem? (i := 152) rfl)) (by decide +kernel), (List.forall_mem_cons.mpr ⟨x_gw (inT_2 _ (List.mem_of_getElem? (i := 154) rfl)) (by decide +kernel), (List.forall_mem_cons.mpr ⟨x_gw (inT_2 _ (List.mem_of_getElem? (i := 156) rfl)) (by decide +kernel), (List.forall_mem_cons.mpr ⟨x_gw (inT_2 _ (List.mem_of_getElem? (i := 158) rfl)) (by decide +kernel), (List.forall_mem_cons.mpr ⟨x_gw (inT_2 _ (List.mem_of_getElem? (i := 160) rfl)) (by decide +kernel), (List.forall_mem_cons.mpr ⟨x_gw (inT_2 _ (List.mem_of_getElem? (i := 162) rfl)) (by decide +kernel), (List.forall_mem_cons.mpr ⟨x_gw (inT_2 _ (List.mem_of_getElem? (i := 164) rfl)) (by decide +kernel), (List.forall_mem_cons.mpr ⟨x_gw (inT_2 _ (List.mem_of_getElem? (i := 166) rfl)) (by decide +kernel), (List.forall_mem_cons.mpr ⟨x_gw (inT_2 _ (List.mem_of_getElem? (i := 168) rfl)) (by decide +kernel), (List.forall_mem_cons.mpr ⟨x_gw (inT_2 _ (List.mem_of_getElem? (i := 170) rfl)) (by decide +kernel), (List.forall_mem_cons.mpr ⟨x_gw (inT_2 _ (List.mem_of_getElem? (i := 172) rfl)) (by decide +kernel), (List.forall_mem_cons.mpr ⟨x_gw (inT_2 _ (List.mem_of_getElem? (i := 174) rfl)) (by decide +kernel), (List.forall_mem_cons.mpr ⟨x_gw (inT_2 _ (List.mem_of_getElem? (i := 176) rfl)) (by decide +kernel), (List.forall_mem_cons.mpr ⟨x_gw (inT_2 _ (List.mem_of_getElem? (i := 178) rfl)) (by decide +kernel), (List.forall_mem_cons.mpr ⟨x_gw (inT_2 _ (List.mem_of_getElem? (i := 180) rfl)) (by decide +kernel), (List.forall_mem_cons.mpr ⟨x_gw (inT_2 _ (List.mem_of_getElem? (i := 182) rfl)) (by decide +kernel), (fun _ h => absurd h List.not_mem_nil)⟩)⟩)⟩)⟩)⟩)⟩)⟩)⟩)⟩)⟩)⟩)⟩)⟩)⟩)⟩)⟩)⟩)⟩)⟩)⟩)⟩)
def xD_0 : List Value := [.null, .int 0, .null, .null, .null, .null, .null, .null, .null, .null, .null, .null, .null, .null, .int 0, .int 0, .int 0, .int 0, .int 0, .int 0, .int 0]
theorem xDo_0 {ad : Nat → Nat} : ∀ j, j < 21 → defaultValue (xY_0 j) = vp_V (xD_0.map (x_v ad)) j := x_dv 21 (by decide +kernel)
def xT_1 : u_T := fun k => match k with
  | 0 => ("RelayHall$Exchange", "name", "Ljava/lang/String;", true)
  | 1 => ("RelayHall$Exchange", "kind", "I", true)
  | 2 => ("RelayHall$Exchange", "bits", "I", true)
  | 3 => ("RelayHall$Exchange", "alternate", "Ljava/lang/String;", true)
  | 4 => ("RelayHall$Exchange", "durable", "Z", true)
  | 5 => ("RelayHall$Exchange", "autoDelete", "Z", true)
  | 6 => ("RelayHall$Exchange", "internal", "Z", true)
  | _ => ("RelayHall$Durable", "safe", "Z", false)
def xY_1 : Nat → FieldType := fun k => match k with
  | 0 => (.object "java/lang/String")
  | 1 => .int
  | 2 => .int
  | 3 => (.object "java/lang/String")
  | 4 => .boolean
  | 5 => .boolean
  | 6 => .boolean
  | _ => .boolean
theorem xN_1 : ∀ a, a < 8 → ∀ b, b < 8 → a ≠ b → (xT_1 a).2.1 ≠ (xT_1 b).2.1 := by decide +kernel
theorem xYo_1 : ∀ k, k < 8 → parseFieldDescriptor (xT_1 k).2.2.1 = some (xY_1 k) := by decide +kernel
theorem xws_1 : ∀ w ∈ u_ws "RelayHall$Exchange" xT_1 8, w ∈ lw_G := by
  have e : u_ws "RelayHall$Exchange" xT_1 8 = [Cond.laysFinal "RelayHall$Exchange" "RelayHall$Exchange" "name" "Ljava/lang/String;", Cond.laysFinal "RelayHall$Exchange" "RelayHall$Exchange" "kind" "I", Cond.laysFinal "RelayHall$Exchange" "RelayHall$Exchange" "bits" "I", Cond.laysFinal "RelayHall$Exchange" "RelayHall$Exchange" "alternate" "Ljava/lang/String;", Cond.laysFinal "RelayHall$Exchange" "RelayHall$Exchange" "durable" "Z", Cond.laysFinal "RelayHall$Exchange" "RelayHall$Exchange" "autoDelete" "Z", Cond.laysFinal "RelayHall$Exchange" "RelayHall$Exchange" "internal" "Z", Cond.lays "RelayHall$Exchange" "RelayHall$Durable" "safe" "Z"] := by decide +kernel
  rw [e]
  exact (List.forall_mem_cons.mpr ⟨x_gw (inT_1 _ (List.mem_of_getElem? (i := 90) rfl)) (by decide +kernel), (List.forall_mem_cons.mpr ⟨x_gw (inT_1 _ (List.mem_of_getElem? (i := 92) rfl)) (by decide +kernel), (List.forall_mem_cons.mpr ⟨x_gw (inT_1 _ (List.mem_of_getElem? (i := 94) rfl)) (by decide +kernel), (List.forall_mem_cons.mpr ⟨x_gw (inT_1 _ (List.mem_of_getElem? (i := 96) rfl)) (by decide +kernel), (List.forall_mem_cons.mpr ⟨x_gw (inT_1 _ (List.mem_of_getElem? (i := 98) rfl)) (by decide +kernel), (List.forall_mem_cons.mpr ⟨x_gw (inT_1 _ (List.mem_of_getElem? (i := 100) rfl)) (by decide +kernel), (List.forall_mem_cons.mpr ⟨x_gw (inT_1 _ (List.mem_of_getElem? (i := 102) rfl)) (by decide +kernel), (List.forall_mem_cons.mpr ⟨x_gw (inT_1 _ (List.mem_of_getElem? (i := 104) rfl)) (by decide +kernel), (fun _ h => absurd h List.not_mem_nil)⟩)⟩)⟩)⟩)⟩)⟩)⟩)⟩)
def xD_1 : List Value := [.null, .int 0, .int 0, .null, .int 0, .int 0, .int 0, .int 0]
theorem xDo_1 {ad : Nat → Nat} : ∀ j, j < 8 → defaultValue (xY_1 j) = vp_V (xD_1.map (x_v ad)) j := x_dv 8 (by decide +kernel)
def xT_2 : u_T := fun k => match k with
  | 0 => ("java/util/ArrayList", "elementData", "[Ljava/lang/Object;", false)
  | 1 => ("java/util/ArrayList", "size", "I", false)
  | _ => ("java/util/AbstractList", "modCount", "I", false)
def xY_2 : Nat → FieldType := fun k => match k with
  | 0 => (.array (.object "java/lang/Object"))
  | 1 => .int
  | _ => .int
theorem xN_2 : ∀ a, a < 3 → ∀ b, b < 3 → a ≠ b → (xT_2 a).2.1 ≠ (xT_2 b).2.1 := by decide +kernel
theorem xYo_2 : ∀ k, k < 3 → parseFieldDescriptor (xT_2 k).2.2.1 = some (xY_2 k) := by decide +kernel
theorem xws_2 : ∀ w ∈ u_ws "java/util/ArrayList" xT_2 3, w ∈ lw_G := by
  have e : u_ws "java/util/ArrayList" xT_2 3 = [Cond.lays "java/util/ArrayList" "java/util/ArrayList" "elementData" "[Ljava/lang/Object;", Cond.lays "java/util/ArrayList" "java/util/ArrayList" "size" "I", Cond.lays "java/util/ArrayList" "java/util/AbstractList" "modCount" "I"] := by decide +kernel
  rw [e]
  exact (List.forall_mem_cons.mpr ⟨x_gw (inT_1 _ (List.mem_of_getElem? (i := 127) rfl)) (by decide +kernel), (List.forall_mem_cons.mpr ⟨x_gw (inT_1 _ (List.mem_of_getElem? (i := 129) rfl)) (by decide +kernel), (List.forall_mem_cons.mpr ⟨x_gw (inT_1 _ (List.mem_of_getElem? (i := 131) rfl)) (by decide +kernel), (fun _ h => absurd h List.not_mem_nil)⟩)⟩)⟩)
def xD_2 : List Value := [.null, .int 0, .int 0]
theorem xDo_2 {ad : Nat → Nat} : ∀ j, j < 3 → defaultValue (xY_2 j) = vp_V (xD_2.map (x_v ad)) j := x_dv 3 (by decide +kernel)
def xT_3 : u_T := fun k => match k with
  | 0 => ("RelayHall$Log", "pending", "Ljava/util/ArrayList;", true)
  | _ => ("RelayHall$Log", "things", "Ljava/util/ArrayList;", true)
def xY_3 : Nat → FieldType := fun k => match k with
  | 0 => (.object "java/util/ArrayList")
  | _ => (.object "java/util/ArrayList")
theorem xN_3 : ∀ a, a < 2 → ∀ b, b < 2 → a ≠ b → (xT_3 a).2.1 ≠ (xT_3 b).2.1 := by decide +kernel
theorem xYo_3 : ∀ k, k < 2 → parseFieldDescriptor (xT_3 k).2.2.1 = some (xY_3 k) := by decide +kernel
theorem xws_3 : ∀ w ∈ u_ws "RelayHall$Log" xT_3 2, w ∈ lw_G := by
  have e : u_ws "RelayHall$Log" xT_3 2 = [Cond.laysFinal "RelayHall$Log" "RelayHall$Log" "pending" "Ljava/util/ArrayList;", Cond.laysFinal "RelayHall$Log" "RelayHall$Log" "things" "Ljava/util/ArrayList;"] := by decide +kernel
  rw [e]
  exact (List.forall_mem_cons.mpr ⟨x_gw (inT_1 _ (List.mem_of_getElem? (i := 146) rfl)) (by decide +kernel), (List.forall_mem_cons.mpr ⟨x_gw (inT_1 _ (List.mem_of_getElem? (i := 148) rfl)) (by decide +kernel), (fun _ h => absurd h List.not_mem_nil)⟩)⟩)
def xD_3 : List Value := [.null, .null]
theorem xDo_3 {ad : Nat → Nat} : ∀ j, j < 2 → defaultValue (xY_3 j) = vp_V (xD_3.map (x_v ad)) j := x_dv 2 (by decide +kernel)
def xT_4 : u_T := fun k => match k with
  | 0 => ("RelayHall$Reader", "bytes", "[B", false)
  | 1 => ("RelayHall$Reader", "at", "I", false)
  | 2 => ("RelayHall$Reader", "end", "I", false)
  | _ => ("RelayHall$Reader", "wrong", "Z", false)
def xY_4 : Nat → FieldType := fun k => match k with
  | 0 => (.array .byte)
  | 1 => .int
  | 2 => .int
  | _ => .boolean
theorem xN_4 : ∀ a, a < 4 → ∀ b, b < 4 → a ≠ b → (xT_4 a).2.1 ≠ (xT_4 b).2.1 := by decide +kernel
theorem xYo_4 : ∀ k, k < 4 → parseFieldDescriptor (xT_4 k).2.2.1 = some (xY_4 k) := by decide +kernel
theorem xws_4 : ∀ w ∈ u_ws "RelayHall$Reader" xT_4 4, w ∈ lw_G := by
  have e : u_ws "RelayHall$Reader" xT_4 4 = [Cond.lays "RelayHall$Reader" "RelayHall$Reader" "bytes" "[B", Cond.lays "RelayHall$Reader" "RelayHall$Reader" "at" "I", Cond.lays "RelayHall$Reader" "RelayHall$Reader" "end" "I", Cond.lays "RelayHall$Reader" "RelayHall$Reader" "wrong" "Z"] := by decide +kernel
  rw [e]
  exact (List.forall_mem_cons.mpr ⟨x_gw (inT_1 _ (List.mem_of_getElem? (i := 161) rfl)) (by decide +kernel), (List.forall_mem_cons.mpr ⟨x_gw (inT_1 _ (List.mem_of_getElem? (i := 163) rfl)) (by decide +kernel), (List.forall_mem_cons.mpr ⟨x_gw (inT_1 _ (List.mem_of_getElem? (i := 165) rfl)) (by decide +kernel), (List.forall_mem_cons.mpr ⟨x_gw (inT_1 _ (List.mem_of_getElem? (i := 167) rfl)) (by decide +kernel), (fun _ h => absurd h List.not_mem_nil)⟩)⟩)⟩)⟩)
def xD_4 : List Value := [.null, .int 0, .int 0, .int 0]
theorem xDo_4 {ad : Nat → Nat} : ∀ j, j < 4 → defaultValue (xY_4 j) = vp_V (xD_4.map (x_v ad)) j := x_dv 4 (by decide +kernel)
def xT_5 : u_T := fun k => match k with
  | 0 => ("java/lang/AbstractStringBuilder", "value", "[B", false)
  | 1 => ("java/lang/AbstractStringBuilder", "coder", "B", false)
  | 2 => ("java/lang/AbstractStringBuilder", "maybeLatin1", "Z", false)
  | _ => ("java/lang/AbstractStringBuilder", "count", "I", false)
def xY_5 : Nat → FieldType := fun k => match k with
  | 0 => (.array .byte)
  | 1 => .byte
  | 2 => .boolean
  | _ => .int
theorem xN_5 : ∀ a, a < 4 → ∀ b, b < 4 → a ≠ b → (xT_5 a).2.1 ≠ (xT_5 b).2.1 := by decide +kernel
theorem xYo_5 : ∀ k, k < 4 → parseFieldDescriptor (xT_5 k).2.2.1 = some (xY_5 k) := by decide +kernel
theorem xws_5 : ∀ w ∈ u_ws "java/lang/StringBuilder" xT_5 4, w ∈ lw_G := by
  have e : u_ws "java/lang/StringBuilder" xT_5 4 = [Cond.lays "java/lang/StringBuilder" "java/lang/AbstractStringBuilder" "value" "[B", Cond.lays "java/lang/StringBuilder" "java/lang/AbstractStringBuilder" "coder" "B", Cond.lays "java/lang/StringBuilder" "java/lang/AbstractStringBuilder" "maybeLatin1" "Z", Cond.lays "java/lang/StringBuilder" "java/lang/AbstractStringBuilder" "count" "I"] := by decide +kernel
  rw [e]
  exact (List.forall_mem_cons.mpr ⟨x_gw (inT_1 _ (List.mem_of_getElem? (i := 193) rfl)) (by decide +kernel), (List.forall_mem_cons.mpr ⟨x_gw (inT_1 _ (List.mem_of_getElem? (i := 195) rfl)) (by decide +kernel), (List.forall_mem_cons.mpr ⟨x_gw (inT_1 _ (List.mem_of_getElem? (i := 197) rfl)) (by decide +kernel), (List.forall_mem_cons.mpr ⟨x_gw (inT_1 _ (List.mem_of_getElem? (i := 199) rfl)) (by decide +kernel), (fun _ h => absurd h List.not_mem_nil)⟩)⟩)⟩)⟩)
def xD_5 : List Value := [.null, .int 0, .int 0, .int 0]
theorem xDo_5 {ad : Nat → Nat} : ∀ j, j < 4 → defaultValue (xY_5 j) = vp_V (xD_5.map (x_v ad)) j := x_dv 4 (by decide +kernel)
def xT_6 : u_T := fun k => match k with
  | 0 => ("RelayHall$Connection", "channels", "[LRelayHall$Channel;", true)
  | 1 => ("RelayHall$Connection", "state", "I", false)
  | 2 => ("RelayHall$Connection", "heartbeat", "I", false)
  | 3 => ("RelayHall$Connection", "lastIn", "I", false)
  | 4 => ("RelayHall$Connection", "lastOut", "I", false)
  | 5 => ("RelayHall$Connection", "closingSince", "I", false)
  | 6 => ("RelayHall$Connection", "in", "[B", true)
  | 7 => ("RelayHall$Connection", "inLength", "I", false)
  | 8 => ("RelayHall$Connection", "deaf", "Z", false)
  | 9 => ("RelayHall$Connection", "out", "[B", true)
  | 10 => ("RelayHall$Connection", "outStart", "I", false)
  | 11 => ("RelayHall$Connection", "outLength", "I", false)
  | 12 => ("RelayHall$Connection", "drafted", "I", false)
  | _ => ("RelayHall$Connection", "frameAt", "I", false)
def xY_6 : Nat → FieldType := fun k => match k with
  | 0 => (.array (.object "RelayHall$Channel"))
  | 1 => .int
  | 2 => .int
  | 3 => .int
  | 4 => .int
  | 5 => .int
  | 6 => (.array .byte)
  | 7 => .int
  | 8 => .boolean
  | 9 => (.array .byte)
  | 10 => .int
  | 11 => .int
  | 12 => .int
  | _ => .int
theorem xN_6 : ∀ a, a < 14 → ∀ b, b < 14 → a ≠ b → (xT_6 a).2.1 ≠ (xT_6 b).2.1 := by decide +kernel
theorem xYo_6 : ∀ k, k < 14 → parseFieldDescriptor (xT_6 k).2.2.1 = some (xY_6 k) := by decide +kernel
theorem xws_6 : ∀ w ∈ u_ws "RelayHall$Connection" xT_6 14, w ∈ lw_G := by
  have e : u_ws "RelayHall$Connection" xT_6 14 = [Cond.laysFinal "RelayHall$Connection" "RelayHall$Connection" "channels" "[LRelayHall$Channel;", Cond.lays "RelayHall$Connection" "RelayHall$Connection" "state" "I", Cond.lays "RelayHall$Connection" "RelayHall$Connection" "heartbeat" "I", Cond.lays "RelayHall$Connection" "RelayHall$Connection" "lastIn" "I", Cond.lays "RelayHall$Connection" "RelayHall$Connection" "lastOut" "I", Cond.lays "RelayHall$Connection" "RelayHall$Connection" "closingSince" "I", Cond.laysFinal "RelayHall$Connection" "RelayHall$Connection" "in" "[B", Cond.lays "RelayHall$Connection" "RelayHall$Connection" "inLength" "I", Cond.lays "RelayHall$Connection" "RelayHall$Connection" "deaf" "Z", Cond.laysFinal "RelayHall$Connection" "RelayHall$Connection" "out" "[B", Cond.lays "RelayHall$Connection" "RelayHall$Connection" "outStart" "I", Cond.lays "RelayHall$Connection" "RelayHall$Connection" "outLength" "I", Cond.lays "RelayHall$Connection" "RelayHall$Connection" "drafted" "I", Cond.lays "RelayHall$Connection" "RelayHall$Connection" "frameAt" "I"] := by decide +kernel
  rw [e]
  exact (List.forall_mem_cons.mpr ⟨x_gw (inT_1 _ (List.mem_of_getElem? (i := 234) rfl)) (by decide +kernel), (List.forall_mem_cons.mpr ⟨x_gw (inT_1 _ (List.mem_of_getElem? (i := 236) rfl)) (by decide +kernel), (List.forall_mem_cons.mpr ⟨x_gw (inT_1 _ (List.mem_of_getElem? (i := 238) rfl)) (by decide +kernel), (List.forall_mem_cons.mpr ⟨x_gw (inT_2 _ (List.mem_of_getElem? (i := 0) rfl)) (by decide +kernel), (List.forall_mem_cons.mpr ⟨x_gw (inT_2 _ (List.mem_of_getElem? (i := 2) rfl)) (by decide +kernel), (List.forall_mem_cons.mpr ⟨x_gw (inT_2 _ (List.mem_of_getElem? (i := 4) rfl)) (by decide +kernel), (List.forall_mem_cons.mpr ⟨x_gw (inT_2 _ (List.mem_of_getElem? (i := 6) rfl)) (by decide +kernel), (List.forall_mem_cons.mpr ⟨x_gw (inT_2 _ (List.mem_of_getElem? (i := 8) rfl)) (by decide +kernel), (List.forall_mem_cons.mpr ⟨x_gw (inT_2 _ (List.mem_of_getElem? (i := 10) rfl)) (by decide +kernel), (List.forall_mem_cons.mpr ⟨x_gw (inT_2 _ (List.mem_of_getElem? (i := 12) rfl)) (by decide +kernel), (List.forall_mem_cons.mpr ⟨x_gw (inT_2 _ (List.mem_of_getElem? (i := 14) rfl)) (by decide +kernel), (List.forall_mem_cons.mpr ⟨x_gw (inT_2 _ (List.mem_of_getElem? (i := 16) rfl)) (by decide +kernel), (List.forall_mem_cons.mpr ⟨x_gw (inT_2 _ (List.mem_of_getElem? (i := 18) rfl)) (by decide +kernel), (List.forall_mem_cons.mpr ⟨x_gw (inT_2 _ (List.mem_of_getElem? (i := 20) rfl)) (by decide +kernel), (fun _ h => absurd h List.not_mem_nil)⟩)⟩)⟩)⟩)⟩)⟩)⟩)⟩)⟩)⟩)⟩)⟩)⟩)⟩)
def xD_6 : List Value := [.null, .int 0, .int 0, .int 0, .int 0, .int 0, .null, .int 0, .int 0, .null, .int 0, .int 0, .int 0, .int 0]
theorem xDo_6 {ad : Nat → Nat} : ∀ j, j < 14 → defaultValue (xY_6 j) = vp_V (xD_6.map (x_v ad)) j := x_dv 14 (by decide +kernel)
def xT_7 : u_T := fun k => match k with
  | 0 => ("RelayHall$Channel", "connection", "LRelayHall$Connection;", true)
  | 1 => ("RelayHall$Channel", "number", "I", true)
  | 2 => ("RelayHall$Channel", "state", "I", false)
  | 3 => ("RelayHall$Channel", "mode", "I", false)
  | 4 => ("RelayHall$Channel", "active", "Z", false)
  | 5 => ("RelayHall$Channel", "limit", "I", false)
  | 6 => ("RelayHall$Channel", "consumerLimit", "I", false)
  | 7 => ("RelayHall$Channel", "lastTag", "I", false)
  | 8 => ("RelayHall$Channel", "lastMadeTag", "I", false)
  | 9 => ("RelayHall$Channel", "lastConfirm", "I", false)
  | 10 => ("RelayHall$Channel", "lastQueue", "Ljava/lang/String;", false)
  | 11 => ("RelayHall$Channel", "due", "I", false)
  | 12 => ("RelayHall$Channel", "content", "LRelayHall$Message;", false)
  | 13 => ("RelayHall$Channel", "filled", "I", false)
  | 14 => ("RelayHall$Channel", "unacked", "Ljava/util/ArrayList;", true)
  | 15 => ("RelayHall$Channel", "unackedOfConsumers", "I", false)
  | 16 => ("RelayHall$Channel", "kept", "I", false)
  | 17 => ("RelayHall$Channel", "keptKinds", "[I", true)
  | 18 => ("RelayHall$Channel", "keptMessages", "[LRelayHall$Message;", true)
  | _ => ("RelayHall$Channel", "confirmsDue", "Ljava/util/ArrayList;", true)
def xY_7 : Nat → FieldType := fun k => match k with
  | 0 => (.object "RelayHall$Connection")
  | 1 => .int
  | 2 => .int
  | 3 => .int
  | 4 => .boolean
  | 5 => .int
  | 6 => .int
  | 7 => .int
  | 8 => .int
  | 9 => .int
  | 10 => (.object "java/lang/String")
  | 11 => .int
  | 12 => (.object "RelayHall$Message")
  | 13 => .int
  | 14 => (.object "java/util/ArrayList")
  | 15 => .int
  | 16 => .int
  | 17 => (.array .int)
  | 18 => (.array (.object "RelayHall$Message"))
  | _ => (.object "java/util/ArrayList")
theorem xN_7 : ∀ a, a < 20 → ∀ b, b < 20 → a ≠ b → (xT_7 a).2.1 ≠ (xT_7 b).2.1 := by decide +kernel
theorem xYo_7 : ∀ k, k < 20 → parseFieldDescriptor (xT_7 k).2.2.1 = some (xY_7 k) := by decide +kernel
theorem xws_7 : ∀ w ∈ u_ws "RelayHall$Channel" xT_7 20, w ∈ lw_G := by
  have e : u_ws "RelayHall$Channel" xT_7 20 = [Cond.laysFinal "RelayHall$Channel" "RelayHall$Channel" "connection" "LRelayHall$Connection;", Cond.laysFinal "RelayHall$Channel" "RelayHall$Channel" "number" "I", Cond.lays "RelayHall$Channel" "RelayHall$Channel" "state" "I", Cond.lays "RelayHall$Channel" "RelayHall$Channel" "mode" "I", Cond.lays "RelayHall$Channel" "RelayHall$Channel" "active" "Z", Cond.lays "RelayHall$Channel" "RelayHall$Channel" "limit" "I", Cond.lays "RelayHall$Channel" "RelayHall$Channel" "consumerLimit" "I", Cond.lays "RelayHall$Channel" "RelayHall$Channel" "lastTag" "I", Cond.lays "RelayHall$Channel" "RelayHall$Channel" "lastMadeTag" "I", Cond.lays "RelayHall$Channel" "RelayHall$Channel" "lastConfirm" "I", Cond.lays "RelayHall$Channel" "RelayHall$Channel" "lastQueue" "Ljava/lang/String;", Cond.lays "RelayHall$Channel" "RelayHall$Channel" "due" "I", Cond.lays "RelayHall$Channel" "RelayHall$Channel" "content" "LRelayHall$Message;", Cond.lays "RelayHall$Channel" "RelayHall$Channel" "filled" "I", Cond.laysFinal "RelayHall$Channel" "RelayHall$Channel" "unacked" "Ljava/util/ArrayList;", Cond.lays "RelayHall$Channel" "RelayHall$Channel" "unackedOfConsumers" "I", Cond.lays "RelayHall$Channel" "RelayHall$Channel" "kept" "I", Cond.laysFinal "RelayHall$Channel" "RelayHall$Channel" "keptKinds" "[I", Cond.laysFinal "RelayHall$Channel" "RelayHall$Channel" "keptMessages" "[LRelayHall$Message;", Cond.laysFinal "RelayHall$Channel" "RelayHall$Channel" "confirmsDue" "Ljava/util/ArrayList;"] := by decide +kernel
  rw [e]
  exact (List.forall_mem_cons.mpr ⟨x_gw (inT_2 _ (List.mem_of_getElem? (i := 79) rfl)) (by decide +kernel), (List.forall_mem_cons.mpr ⟨x_gw (inT_2 _ (List.mem_of_getElem? (i := 81) rfl)) (by decide +kernel), (List.forall_mem_cons.mpr ⟨x_gw (inT_2 _ (List.mem_of_getElem? (i := 83) rfl)) (by decide +kernel), (List.forall_mem_cons.mpr ⟨x_gw (inT_2 _ (List.mem_of_getElem? (i := 85) rfl)) (by decide +kernel), (List.forall_mem_cons.mpr ⟨x_gw (inT_2 _ (List.mem_of_getElem? (i := 87) rfl)) (by decide +kernel), (List.forall_mem_cons.mpr ⟨x_gw (inT_2 _ (List.mem_of_getElem? (i := 89) rfl)) (by decide +kernel), (List.forall_mem_cons.mpr ⟨x_gw (inT_2 _ (List.mem_of_getElem? (i := 91) rfl)) (by decide +kernel), (List.forall_mem_cons.mpr ⟨x_gw (inT_2 _ (List.mem_of_getElem? (i := 93) rfl)) (by decide +kernel), (List.forall_mem_cons.mpr ⟨x_gw (inT_2 _ (List.mem_of_getElem? (i := 95) rfl)) (by decide +kernel), (List.forall_mem_cons.mpr ⟨x_gw (inT_2 _ (List.mem_of_getElem? (i := 97) rfl)) (by decide +kernel), (List.forall_mem_cons.mpr ⟨x_gw (inT_2 _ (List.mem_of_getElem? (i := 99) rfl)) (by decide +kernel), (List.forall_mem_cons.mpr ⟨x_gw (inT_2 _ (List.mem_of_getElem? (i := 101) rfl)) (by decide +kernel), (List.forall_mem_cons.mpr ⟨x_gw (inT_2 _ (List.mem_of_getElem? (i := 103) rfl)) (by decide +kernel), (List.forall_mem_cons.mpr ⟨x_gw (inT_2 _ (List.mem_of_getElem? (i := 105) rfl)) (by decide +kernel), (List.forall_mem_cons.mpr ⟨x_gw (inT_2 _ (List.mem_of_getElem? (i := 107) rfl)) (by decide +kernel), (List.forall_mem_cons.mpr ⟨x_gw (inT_2 _ (List.mem_of_getElem? (i := 109) rfl)) (by decide +kernel), (List.forall_mem_cons.mpr ⟨x_gw (inT_2 _ (List.mem_of_getElem? (i := 111) rfl)) (by decide +kernel), (List.forall_mem_cons.mpr ⟨x_gw (inT_2 _ (List.mem_of_getElem? (i := 113) rfl)) (by decide +kernel), (List.forall_mem_cons.mpr ⟨x_gw (inT_2 _ (List.mem_of_getElem? (i := 115) rfl)) (by decide +kernel), (List.forall_mem_cons.mpr ⟨x_gw (inT_2 _ (List.mem_of_getElem? (i := 117) rfl)) (by decide +kernel), (fun _ h => absurd h List.not_mem_nil)⟩)⟩)⟩)⟩)⟩)⟩)⟩)⟩)⟩)⟩)⟩)⟩)⟩)⟩)⟩)⟩)⟩)⟩)⟩)⟩)
def xD_7 : List Value := [.null, .int 0, .int 0, .int 0, .int 0, .int 0, .int 0, .int 0, .int 0, .int 0, .null, .int 0, .null, .int 0, .null, .int 0, .int 0, .null, .null, .null]
theorem xDo_7 {ad : Nat → Nat} : ∀ j, j < 20 → defaultValue (xY_7 j) = vp_V (xD_7.map (x_v ad)) j := x_dv 20 (by decide +kernel)
def xT_8 : u_T := fun k => match k with
  | 0 => ("java/lang/String", "value", "[B", true)
  | 1 => ("java/lang/String", "coder", "B", true)
  | 2 => ("java/lang/String", "hash", "I", false)
  | _ => ("java/lang/String", "hashIsZero", "Z", false)
def xY_8 : Nat → FieldType := fun k => match k with
  | 0 => (.array .byte)
  | 1 => .byte
  | 2 => .int
  | _ => .boolean
theorem xN_8 : ∀ a, a < 4 → ∀ b, b < 4 → a ≠ b → (xT_8 a).2.1 ≠ (xT_8 b).2.1 := by decide +kernel
theorem xYo_8 : ∀ k, k < 4 → parseFieldDescriptor (xT_8 k).2.2.1 = some (xY_8 k) := by decide +kernel
theorem xws_8 : ∀ w ∈ u_ws "java/lang/String" xT_8 4, w ∈ lw_G := by
  have e : u_ws "java/lang/String" xT_8 4 = [Cond.laysFinal "java/lang/String" "java/lang/String" "value" "[B", Cond.laysFinal "java/lang/String" "java/lang/String" "coder" "B", Cond.lays "java/lang/String" "java/lang/String" "hash" "I", Cond.lays "java/lang/String" "java/lang/String" "hashIsZero" "Z"] := by decide +kernel
  rw [e]
  exact (List.forall_mem_cons.mpr ⟨x_gw (inT_3 _ (List.mem_of_getElem? (i := 234) rfl)) (by decide +kernel), (List.forall_mem_cons.mpr ⟨x_gw (inT_3 _ (List.mem_of_getElem? (i := 236) rfl)) (by decide +kernel), (List.forall_mem_cons.mpr ⟨x_gw (inT_3 _ (List.mem_of_getElem? (i := 238) rfl)) (by decide +kernel), (List.forall_mem_cons.mpr ⟨x_gw (inT_4 _ (List.mem_of_getElem? (i := 0) rfl)) (by decide +kernel), (fun _ h => absurd h List.not_mem_nil)⟩)⟩)⟩)⟩)
def xD_8 : List Value := [.null, .int 0, .int 0, .int 0]
theorem xDo_8 {ad : Nat → Nat} : ∀ j, j < 4 → defaultValue (xY_8 j) = vp_V (xD_8.map (x_v ad)) j := x_dv 4 (by decide +kernel)
def xT_9 : u_T := fun k => match k with
  | 0 => ("RelayHall$Table", "raw", "Ljava/lang/String;", true)
  | 1 => ("RelayHall$Table", "count", "I", false)
  | 2 => ("RelayHall$Table", "from", "[I", true)
  | _ => ("RelayHall$Table", "to", "[I", true)
def xY_9 : Nat → FieldType := fun k => match k with
  | 0 => (.object "java/lang/String")
  | 1 => .int
  | 2 => (.array .int)
  | _ => (.array .int)
theorem xN_9 : ∀ a, a < 4 → ∀ b, b < 4 → a ≠ b → (xT_9 a).2.1 ≠ (xT_9 b).2.1 := by decide +kernel
theorem xYo_9 : ∀ k, k < 4 → parseFieldDescriptor (xT_9 k).2.2.1 = some (xY_9 k) := by decide +kernel
theorem xws_9 : ∀ w ∈ u_ws "RelayHall$Table" xT_9 4, w ∈ lw_G := by
  have e : u_ws "RelayHall$Table" xT_9 4 = [Cond.laysFinal "RelayHall$Table" "RelayHall$Table" "raw" "Ljava/lang/String;", Cond.lays "RelayHall$Table" "RelayHall$Table" "count" "I", Cond.laysFinal "RelayHall$Table" "RelayHall$Table" "from" "[I", Cond.laysFinal "RelayHall$Table" "RelayHall$Table" "to" "[I"] := by decide +kernel
  rw [e]
  exact (List.forall_mem_cons.mpr ⟨x_gw (inT_4 _ (List.mem_of_getElem? (i := 120) rfl)) (by decide +kernel), (List.forall_mem_cons.mpr ⟨x_gw (inT_4 _ (List.mem_of_getElem? (i := 122) rfl)) (by decide +kernel), (List.forall_mem_cons.mpr ⟨x_gw (inT_4 _ (List.mem_of_getElem? (i := 124) rfl)) (by decide +kernel), (List.forall_mem_cons.mpr ⟨x_gw (inT_4 _ (List.mem_of_getElem? (i := 126) rfl)) (by decide +kernel), (fun _ h => absurd h List.not_mem_nil)⟩)⟩)⟩)⟩)
def xD_9 : List Value := [.null, .int 0, .null, .null]
theorem xDo_9 {ad : Nat → Nat} : ∀ j, j < 4 → defaultValue (xY_9 j) = vp_V (xD_9.map (x_v ad)) j := x_dv 4 (by decide +kernel)
def xT_10 : u_T := fun k => match k with
  | 0 => ("java/lang/Throwable", "cause", "Ljava/lang/Throwable;", false)
  | 1 => ("java/lang/Throwable", "stackTrace", "[Ljava/lang/StackTraceElement;", false)
  | 2 => ("java/lang/Throwable", "suppressedExceptions", "Ljava/util/List;", false)
  | 3 => ("java/lang/Throwable", "detailMessage", "Ljava/lang/String;", false)
  | 4 => ("java/lang/Throwable", "backtrace", "Ljava/lang/Object;", false)
  | _ => ("java/lang/Throwable", "depth", "I", false)
def xY_10 : Nat → FieldType := fun k => match k with
  | 0 => (.object "java/lang/Throwable")
  | 1 => (.array (.object "java/lang/StackTraceElement"))
  | 2 => (.object "java/util/List")
  | 3 => (.object "java/lang/String")
  | 4 => (.object "java/lang/Object")
  | _ => .int
theorem xN_10 : ∀ a, a < 6 → ∀ b, b < 6 → a ≠ b → (xT_10 a).2.1 ≠ (xT_10 b).2.1 := by decide +kernel
theorem xYo_10 : ∀ k, k < 6 → parseFieldDescriptor (xT_10 k).2.2.1 = some (xY_10 k) := by decide +kernel
theorem xws_10 : ∀ w ∈ u_ws "java/lang/IllegalArgumentException" xT_10 6, w ∈ lw_G := by
  have e : u_ws "java/lang/IllegalArgumentException" xT_10 6 = [Cond.lays "java/lang/IllegalArgumentException" "java/lang/Throwable" "cause" "Ljava/lang/Throwable;", Cond.lays "java/lang/IllegalArgumentException" "java/lang/Throwable" "stackTrace" "[Ljava/lang/StackTraceElement;", Cond.lays "java/lang/IllegalArgumentException" "java/lang/Throwable" "suppressedExceptions" "Ljava/util/List;", Cond.lays "java/lang/IllegalArgumentException" "java/lang/Throwable" "detailMessage" "Ljava/lang/String;", Cond.lays "java/lang/IllegalArgumentException" "java/lang/Throwable" "backtrace" "Ljava/lang/Object;", Cond.lays "java/lang/IllegalArgumentException" "java/lang/Throwable" "depth" "I"] := by decide +kernel
  rw [e]
  exact (List.forall_mem_cons.mpr ⟨x_gw (inT_4 _ (List.mem_of_getElem? (i := 201) rfl)) (by decide +kernel), (List.forall_mem_cons.mpr ⟨x_gw (inT_4 _ (List.mem_of_getElem? (i := 203) rfl)) (by decide +kernel), (List.forall_mem_cons.mpr ⟨x_gw (inT_4 _ (List.mem_of_getElem? (i := 205) rfl)) (by decide +kernel), (List.forall_mem_cons.mpr ⟨x_gw (inT_4 _ (List.mem_of_getElem? (i := 207) rfl)) (by decide +kernel), (List.forall_mem_cons.mpr ⟨x_gw (inT_4 _ (List.mem_of_getElem? (i := 209) rfl)) (by decide +kernel), (List.forall_mem_cons.mpr ⟨x_gw (inT_5 _ (List.mem_of_getElem? (i := 141) rfl)) (by decide +kernel), (fun _ h => absurd h List.not_mem_nil)⟩)⟩)⟩)⟩)⟩)⟩)
def xD_10 : List Value := [.null, .null, .null, .null, .null, .int 0]
theorem xDo_10 {ad : Nat → Nat} : ∀ j, j < 6 → defaultValue (xY_10 j) = vp_V (xD_10.map (x_v ad)) j := x_dv 6 (by decide +kernel)
def xT_11 : u_T := fun k => match k with
  | 0 => ("java/lang/Throwable", "backtrace", "Ljava/lang/Object;", false)
  | 1 => ("java/lang/Throwable", "detailMessage", "Ljava/lang/String;", false)
  | 2 => ("java/lang/Throwable", "cause", "Ljava/lang/Throwable;", false)
  | 3 => ("java/lang/Throwable", "stackTrace", "[Ljava/lang/StackTraceElement;", false)
  | 4 => ("java/lang/Throwable", "depth", "I", false)
  | _ => ("java/lang/Throwable", "suppressedExceptions", "Ljava/util/List;", false)
def xY_11 : Nat → FieldType := fun k => match k with
  | 0 => (.object "java/lang/Object")
  | 1 => (.object "java/lang/String")
  | 2 => (.object "java/lang/Throwable")
  | 3 => (.array (.object "java/lang/StackTraceElement"))
  | 4 => .int
  | _ => (.object "java/util/List")
theorem xN_11 : ∀ a, a < 6 → ∀ b, b < 6 → a ≠ b → (xT_11 a).2.1 ≠ (xT_11 b).2.1 := by decide +kernel
theorem xYo_11 : ∀ k, k < 6 → parseFieldDescriptor (xT_11 k).2.2.1 = some (xY_11 k) := by decide +kernel
theorem xws_11 : ∀ w ∈ u_ws "java/lang/StringIndexOutOfBoundsException" xT_11 6, w ∈ lw_G := by
  have e : u_ws "java/lang/StringIndexOutOfBoundsException" xT_11 6 = [Cond.lays "java/lang/StringIndexOutOfBoundsException" "java/lang/Throwable" "backtrace" "Ljava/lang/Object;", Cond.lays "java/lang/StringIndexOutOfBoundsException" "java/lang/Throwable" "detailMessage" "Ljava/lang/String;", Cond.lays "java/lang/StringIndexOutOfBoundsException" "java/lang/Throwable" "cause" "Ljava/lang/Throwable;", Cond.lays "java/lang/StringIndexOutOfBoundsException" "java/lang/Throwable" "stackTrace" "[Ljava/lang/StackTraceElement;", Cond.lays "java/lang/StringIndexOutOfBoundsException" "java/lang/Throwable" "depth" "I", Cond.lays "java/lang/StringIndexOutOfBoundsException" "java/lang/Throwable" "suppressedExceptions" "Ljava/util/List;"] := by decide +kernel
  rw [e]
  exact (List.forall_mem_cons.mpr ⟨x_gw (inT_6 _ (List.mem_of_getElem? (i := 65) rfl)) (by decide +kernel), (List.forall_mem_cons.mpr ⟨x_gw (inT_6 _ (List.mem_of_getElem? (i := 66) rfl)) (by decide +kernel), (List.forall_mem_cons.mpr ⟨x_gw (inT_6 _ (List.mem_of_getElem? (i := 67) rfl)) (by decide +kernel), (List.forall_mem_cons.mpr ⟨x_gw (inT_6 _ (List.mem_of_getElem? (i := 68) rfl)) (by decide +kernel), (List.forall_mem_cons.mpr ⟨x_gw (inT_6 _ (List.mem_of_getElem? (i := 69) rfl)) (by decide +kernel), (List.forall_mem_cons.mpr ⟨x_gw (inT_6 _ (List.mem_of_getElem? (i := 70) rfl)) (by decide +kernel), (fun _ h => absurd h List.not_mem_nil)⟩)⟩)⟩)⟩)⟩)⟩)
def xD_11 : List Value := [.null, .null, .null, .null, .int 0, .null]
theorem xDo_11 {ad : Nat → Nat} : ∀ j, j < 6 → defaultValue (xY_11 j) = vp_V (xD_11.map (x_v ad)) j := x_dv 6 (by decide +kernel)
def xT_12 : u_T := fun k => match k with
  | 0 => ("java/lang/Throwable", "backtrace", "Ljava/lang/Object;", false)
  | 1 => ("java/lang/Throwable", "detailMessage", "Ljava/lang/String;", false)
  | 2 => ("java/lang/Throwable", "cause", "Ljava/lang/Throwable;", false)
  | 3 => ("java/lang/Throwable", "stackTrace", "[Ljava/lang/StackTraceElement;", false)
  | 4 => ("java/lang/Throwable", "depth", "I", false)
  | _ => ("java/lang/Throwable", "suppressedExceptions", "Ljava/util/List;", false)
def xY_12 : Nat → FieldType := fun k => match k with
  | 0 => (.object "java/lang/Object")
  | 1 => (.object "java/lang/String")
  | 2 => (.object "java/lang/Throwable")
  | 3 => (.array (.object "java/lang/StackTraceElement"))
  | 4 => .int
  | _ => (.object "java/util/List")
theorem xN_12 : ∀ a, a < 6 → ∀ b, b < 6 → a ≠ b → (xT_12 a).2.1 ≠ (xT_12 b).2.1 := by decide +kernel
theorem xYo_12 : ∀ k, k < 6 → parseFieldDescriptor (xT_12 k).2.2.1 = some (xY_12 k) := by decide +kernel
theorem xws_12 : ∀ w ∈ u_ws "java/lang/ArrayIndexOutOfBoundsException" xT_12 6, w ∈ lw_G := by
  have e : u_ws "java/lang/ArrayIndexOutOfBoundsException" xT_12 6 = [Cond.lays "java/lang/ArrayIndexOutOfBoundsException" "java/lang/Throwable" "backtrace" "Ljava/lang/Object;", Cond.lays "java/lang/ArrayIndexOutOfBoundsException" "java/lang/Throwable" "detailMessage" "Ljava/lang/String;", Cond.lays "java/lang/ArrayIndexOutOfBoundsException" "java/lang/Throwable" "cause" "Ljava/lang/Throwable;", Cond.lays "java/lang/ArrayIndexOutOfBoundsException" "java/lang/Throwable" "stackTrace" "[Ljava/lang/StackTraceElement;", Cond.lays "java/lang/ArrayIndexOutOfBoundsException" "java/lang/Throwable" "depth" "I", Cond.lays "java/lang/ArrayIndexOutOfBoundsException" "java/lang/Throwable" "suppressedExceptions" "Ljava/util/List;"] := by decide +kernel
  rw [e]
  exact (List.forall_mem_cons.mpr ⟨x_gw (inT_6 _ (List.mem_of_getElem? (i := 96) rfl)) (by decide +kernel), (List.forall_mem_cons.mpr ⟨x_gw (inT_6 _ (List.mem_of_getElem? (i := 97) rfl)) (by decide +kernel), (List.forall_mem_cons.mpr ⟨x_gw (inT_6 _ (List.mem_of_getElem? (i := 98) rfl)) (by decide +kernel), (List.forall_mem_cons.mpr ⟨x_gw (inT_6 _ (List.mem_of_getElem? (i := 99) rfl)) (by decide +kernel), (List.forall_mem_cons.mpr ⟨x_gw (inT_6 _ (List.mem_of_getElem? (i := 100) rfl)) (by decide +kernel), (List.forall_mem_cons.mpr ⟨x_gw (inT_6 _ (List.mem_of_getElem? (i := 101) rfl)) (by decide +kernel), (fun _ h => absurd h List.not_mem_nil)⟩)⟩)⟩)⟩)⟩)⟩)
def xD_12 : List Value := [.null, .null, .null, .null, .int 0, .null]
theorem xDo_12 {ad : Nat → Nat} : ∀ j, j < 6 → defaultValue (xY_12 j) = vp_V (xD_12.map (x_v ad)) j := x_dv 6 (by decide +kernel)
def xT_13 : u_T := fun k => match k with
  | 0 => ("RelayHall$Queue", "name", "Ljava/lang/String;", true)
  | 1 => ("RelayHall$Queue", "bits", "I", true)
  | 2 => ("RelayHall$Queue", "owner", "LRelayHall$Connection;", true)
  | 3 => ("RelayHall$Queue", "kept", "Z", true)
  | 4 => ("RelayHall$Queue", "autoDelete", "Z", true)
  | 5 => ("RelayHall$Queue", "max", "I", false)
  | 6 => ("RelayHall$Queue", "ttl", "I", false)
  | 7 => ("RelayHall$Queue", "pri", "I", false)
  | 8 => ("RelayHall$Queue", "dlx", "Ljava/lang/String;", false)
  | 9 => ("RelayHall$Queue", "dlk", "Ljava/lang/String;", false)
  | 10 => ("RelayHall$Queue", "ready", "Ljava/util/ArrayList;", true)
  | 11 => ("RelayHall$Queue", "unacked", "I", false)
  | 12 => ("RelayHall$Queue", "lastServed", "LRelayHall$Consumer;", false)
  | 13 => ("RelayHall$Queue", "gone", "Z", false)
  | _ => ("RelayHall$Durable", "safe", "Z", false)
def xY_13 : Nat → FieldType := fun k => match k with
  | 0 => (.object "java/lang/String")
  | 1 => .int
  | 2 => (.object "RelayHall$Connection")
  | 3 => .boolean
  | 4 => .boolean
  | 5 => .int
  | 6 => .int
  | 7 => .int
  | 8 => (.object "java/lang/String")
  | 9 => (.object "java/lang/String")
  | 10 => (.object "java/util/ArrayList")
  | 11 => .int
  | 12 => (.object "RelayHall$Consumer")
  | 13 => .boolean
  | _ => .boolean
theorem xN_13 : ∀ a, a < 15 → ∀ b, b < 15 → a ≠ b → (xT_13 a).2.1 ≠ (xT_13 b).2.1 := by decide +kernel
theorem xYo_13 : ∀ k, k < 15 → parseFieldDescriptor (xT_13 k).2.2.1 = some (xY_13 k) := by decide +kernel
theorem xws_13 : ∀ w ∈ u_ws "RelayHall$Queue" xT_13 15, w ∈ lw_G := by
  have e : u_ws "RelayHall$Queue" xT_13 15 = [Cond.laysFinal "RelayHall$Queue" "RelayHall$Queue" "name" "Ljava/lang/String;", Cond.laysFinal "RelayHall$Queue" "RelayHall$Queue" "bits" "I", Cond.laysFinal "RelayHall$Queue" "RelayHall$Queue" "owner" "LRelayHall$Connection;", Cond.laysFinal "RelayHall$Queue" "RelayHall$Queue" "kept" "Z", Cond.laysFinal "RelayHall$Queue" "RelayHall$Queue" "autoDelete" "Z", Cond.lays "RelayHall$Queue" "RelayHall$Queue" "max" "I", Cond.lays "RelayHall$Queue" "RelayHall$Queue" "ttl" "I", Cond.lays "RelayHall$Queue" "RelayHall$Queue" "pri" "I", Cond.lays "RelayHall$Queue" "RelayHall$Queue" "dlx" "Ljava/lang/String;", Cond.lays "RelayHall$Queue" "RelayHall$Queue" "dlk" "Ljava/lang/String;", Cond.laysFinal "RelayHall$Queue" "RelayHall$Queue" "ready" "Ljava/util/ArrayList;", Cond.lays "RelayHall$Queue" "RelayHall$Queue" "unacked" "I", Cond.lays "RelayHall$Queue" "RelayHall$Queue" "lastServed" "LRelayHall$Consumer;", Cond.lays "RelayHall$Queue" "RelayHall$Queue" "gone" "Z", Cond.lays "RelayHall$Queue" "RelayHall$Durable" "safe" "Z"] := by decide +kernel
  rw [e]
  exact (List.forall_mem_cons.mpr ⟨x_gw (inT_6 _ (List.mem_of_getElem? (i := 148) rfl)) (by decide +kernel), (List.forall_mem_cons.mpr ⟨x_gw (inT_6 _ (List.mem_of_getElem? (i := 150) rfl)) (by decide +kernel), (List.forall_mem_cons.mpr ⟨x_gw (inT_6 _ (List.mem_of_getElem? (i := 152) rfl)) (by decide +kernel), (List.forall_mem_cons.mpr ⟨x_gw (inT_6 _ (List.mem_of_getElem? (i := 154) rfl)) (by decide +kernel), (List.forall_mem_cons.mpr ⟨x_gw (inT_6 _ (List.mem_of_getElem? (i := 156) rfl)) (by decide +kernel), (List.forall_mem_cons.mpr ⟨x_gw (inT_6 _ (List.mem_of_getElem? (i := 158) rfl)) (by decide +kernel), (List.forall_mem_cons.mpr ⟨x_gw (inT_6 _ (List.mem_of_getElem? (i := 160) rfl)) (by decide +kernel), (List.forall_mem_cons.mpr ⟨x_gw (inT_6 _ (List.mem_of_getElem? (i := 162) rfl)) (by decide +kernel), (List.forall_mem_cons.mpr ⟨x_gw (inT_6 _ (List.mem_of_getElem? (i := 164) rfl)) (by decide +kernel), (List.forall_mem_cons.mpr ⟨x_gw (inT_6 _ (List.mem_of_getElem? (i := 166) rfl)) (by decide +kernel), (List.forall_mem_cons.mpr ⟨x_gw (inT_6 _ (List.mem_of_getElem? (i := 168) rfl)) (by decide +kernel), (List.forall_mem_cons.mpr ⟨x_gw (inT_6 _ (List.mem_of_getElem? (i := 170) rfl)) (by decide +kernel), (List.forall_mem_cons.mpr ⟨x_gw (inT_6 _ (List.mem_of_getElem? (i := 172) rfl)) (by decide +kernel), (List.forall_mem_cons.mpr ⟨x_gw (inT_6 _ (List.mem_of_getElem? (i := 174) rfl)) (by decide +kernel), (List.forall_mem_cons.mpr ⟨x_gw (inT_6 _ (List.mem_of_getElem? (i := 176) rfl)) (by decide +kernel), (fun _ h => absurd h List.not_mem_nil)⟩)⟩)⟩)⟩)⟩)⟩)⟩)⟩)⟩)⟩)⟩)⟩)⟩)⟩)⟩)
def xD_13 : List Value := [.null, .int 0, .null, .int 0, .int 0, .int 0, .int 0, .int 0, .null, .null, .null, .int 0, .null, .int 0, .int 0]
theorem xDo_13 {ad : Nat → Nat} : ∀ j, j < 15 → defaultValue (xY_13 j) = vp_V (xD_13.map (x_v ad)) j := x_dv 15 (by decide +kernel)
def xT_14 : u_T := fun k => match k with
  | 0 => ("RelayHall$Binding", "exchange", "LRelayHall$Exchange;", true)
  | 1 => ("RelayHall$Binding", "queue", "LRelayHall$Queue;", true)
  | 2 => ("RelayHall$Binding", "key", "Ljava/lang/String;", true)
  | 3 => ("RelayHall$Binding", "table", "LRelayHall$Table;", true)
  | 4 => ("RelayHall$Binding", "matchEntry", "I", true)
  | 5 => ("RelayHall$Binding", "any", "Z", true)
  | _ => ("RelayHall$Durable", "safe", "Z", false)
def xY_14 : Nat → FieldType := fun k => match k with
  | 0 => (.object "RelayHall$Exchange")
  | 1 => (.object "RelayHall$Queue")
  | 2 => (.object "java/lang/String")
  | 3 => (.object "RelayHall$Table")
  | 4 => .int
  | 5 => .boolean
  | _ => .boolean
theorem xN_14 : ∀ a, a < 7 → ∀ b, b < 7 → a ≠ b → (xT_14 a).2.1 ≠ (xT_14 b).2.1 := by decide +kernel
theorem xYo_14 : ∀ k, k < 7 → parseFieldDescriptor (xT_14 k).2.2.1 = some (xY_14 k) := by decide +kernel
theorem xws_14 : ∀ w ∈ u_ws "RelayHall$Binding" xT_14 7, w ∈ lw_G := by
  have e : u_ws "RelayHall$Binding" xT_14 7 = [Cond.laysFinal "RelayHall$Binding" "RelayHall$Binding" "exchange" "LRelayHall$Exchange;", Cond.laysFinal "RelayHall$Binding" "RelayHall$Binding" "queue" "LRelayHall$Queue;", Cond.laysFinal "RelayHall$Binding" "RelayHall$Binding" "key" "Ljava/lang/String;", Cond.laysFinal "RelayHall$Binding" "RelayHall$Binding" "table" "LRelayHall$Table;", Cond.laysFinal "RelayHall$Binding" "RelayHall$Binding" "matchEntry" "I", Cond.laysFinal "RelayHall$Binding" "RelayHall$Binding" "any" "Z", Cond.lays "RelayHall$Binding" "RelayHall$Durable" "safe" "Z"] := by decide +kernel
  rw [e]
  exact (List.forall_mem_cons.mpr ⟨x_gw (inT_6 _ (List.mem_of_getElem? (i := 239) rfl)) (by decide +kernel), (List.forall_mem_cons.mpr ⟨x_gw (inT_7 _ (List.mem_of_getElem? (i := 1) rfl)) (by decide +kernel), (List.forall_mem_cons.mpr ⟨x_gw (inT_7 _ (List.mem_of_getElem? (i := 3) rfl)) (by decide +kernel), (List.forall_mem_cons.mpr ⟨x_gw (inT_7 _ (List.mem_of_getElem? (i := 5) rfl)) (by decide +kernel), (List.forall_mem_cons.mpr ⟨x_gw (inT_7 _ (List.mem_of_getElem? (i := 7) rfl)) (by decide +kernel), (List.forall_mem_cons.mpr ⟨x_gw (inT_7 _ (List.mem_of_getElem? (i := 9) rfl)) (by decide +kernel), (List.forall_mem_cons.mpr ⟨x_gw (inT_7 _ (List.mem_of_getElem? (i := 11) rfl)) (by decide +kernel), (fun _ h => absurd h List.not_mem_nil)⟩)⟩)⟩)⟩)⟩)⟩)⟩)
def xD_14 : List Value := [.null, .null, .null, .null, .int 0, .int 0, .int 0]
theorem xDo_14 {ad : Nat → Nat} : ∀ j, j < 7 → defaultValue (xY_14 j) = vp_V (xD_14.map (x_v ad)) j := x_dv 7 (by decide +kernel)
def xT_15 : u_T := fun k => match k with
  | 0 => ("RelayHall$Consumer", "channel", "LRelayHall$Channel;", true)
  | 1 => ("RelayHall$Consumer", "queue", "LRelayHall$Queue;", true)
  | 2 => ("RelayHall$Consumer", "tag", "Ljava/lang/String;", true)
  | 3 => ("RelayHall$Consumer", "noAck", "Z", true)
  | 4 => ("RelayHall$Consumer", "alone", "Z", true)
  | 5 => ("RelayHall$Consumer", "limit", "I", true)
  | _ => ("RelayHall$Consumer", "unacked", "I", false)
def xY_15 : Nat → FieldType := fun k => match k with
  | 0 => (.object "RelayHall$Channel")
  | 1 => (.object "RelayHall$Queue")
  | 2 => (.object "java/lang/String")
  | 3 => .boolean
  | 4 => .boolean
  | 5 => .int
  | _ => .int
theorem xN_15 : ∀ a, a < 7 → ∀ b, b < 7 → a ≠ b → (xT_15 a).2.1 ≠ (xT_15 b).2.1 := by decide +kernel
theorem xYo_15 : ∀ k, k < 7 → parseFieldDescriptor (xT_15 k).2.2.1 = some (xY_15 k) := by decide +kernel
theorem xws_15 : ∀ w ∈ u_ws "RelayHall$Consumer" xT_15 7, w ∈ lw_G := by
  have e : u_ws "RelayHall$Consumer" xT_15 7 = [Cond.laysFinal "RelayHall$Consumer" "RelayHall$Consumer" "channel" "LRelayHall$Channel;", Cond.laysFinal "RelayHall$Consumer" "RelayHall$Consumer" "queue" "LRelayHall$Queue;", Cond.laysFinal "RelayHall$Consumer" "RelayHall$Consumer" "tag" "Ljava/lang/String;", Cond.laysFinal "RelayHall$Consumer" "RelayHall$Consumer" "noAck" "Z", Cond.laysFinal "RelayHall$Consumer" "RelayHall$Consumer" "alone" "Z", Cond.laysFinal "RelayHall$Consumer" "RelayHall$Consumer" "limit" "I", Cond.lays "RelayHall$Consumer" "RelayHall$Consumer" "unacked" "I"] := by decide +kernel
  rw [e]
  exact (List.forall_mem_cons.mpr ⟨x_gw (inT_7 _ (List.mem_of_getElem? (i := 108) rfl)) (by decide +kernel), (List.forall_mem_cons.mpr ⟨x_gw (inT_7 _ (List.mem_of_getElem? (i := 110) rfl)) (by decide +kernel), (List.forall_mem_cons.mpr ⟨x_gw (inT_7 _ (List.mem_of_getElem? (i := 112) rfl)) (by decide +kernel), (List.forall_mem_cons.mpr ⟨x_gw (inT_7 _ (List.mem_of_getElem? (i := 114) rfl)) (by decide +kernel), (List.forall_mem_cons.mpr ⟨x_gw (inT_7 _ (List.mem_of_getElem? (i := 116) rfl)) (by decide +kernel), (List.forall_mem_cons.mpr ⟨x_gw (inT_7 _ (List.mem_of_getElem? (i := 118) rfl)) (by decide +kernel), (List.forall_mem_cons.mpr ⟨x_gw (inT_7 _ (List.mem_of_getElem? (i := 120) rfl)) (by decide +kernel), (fun _ h => absurd h List.not_mem_nil)⟩)⟩)⟩)⟩)⟩)⟩)⟩)
def xD_15 : List Value := [.null, .null, .null, .int 0, .int 0, .int 0, .int 0]
theorem xDo_15 {ad : Nat → Nat} : ∀ j, j < 7 → defaultValue (xY_15 j) = vp_V (xD_15.map (x_v ad)) j := x_dv 7 (by decide +kernel)
def xT_16 : u_T := fun k => match k with
  | 0 => ("RelayHall$Message", "exchange", "Ljava/lang/String;", true)
  | 1 => ("RelayHall$Message", "key", "Ljava/lang/String;", true)
  | 2 => ("RelayHall$Message", "mandatory", "Z", true)
  | 3 => ("RelayHall$Message", "priority", "I", false)
  | 4 => ("RelayHall$Message", "persistent", "Z", false)
  | 5 => ("RelayHall$Message", "expiration", "J", false)
  | 6 => ("RelayHall$Message", "headers", "LRelayHall$Table;", false)
  | 7 => ("RelayHall$Message", "body", "[B", false)
  | 8 => ("RelayHall$Message", "deaths", "I", false)
  | 9 => ("RelayHall$Message", "queue", "LRelayHall$Queue;", false)
  | 10 => ("RelayHall$Message", "recorded", "Z", false)
  | 11 => ("RelayHall$Message", "number", "I", false)
  | 12 => ("RelayHall$Message", "rank", "I", false)
  | 13 => ("RelayHall$Message", "came", "I", false)
  | 14 => ("RelayHall$Message", "redelivered", "Z", false)
  | 15 => ("RelayHall$Message", "tag", "I", false)
  | 16 => ("RelayHall$Message", "consumer", "LRelayHall$Consumer;", false)
  | 17 => ("RelayHall$Message", "mark", "I", false)
  | _ => ("RelayHall$Durable", "safe", "Z", false)
def xY_16 : Nat → FieldType := fun k => match k with
  | 0 => (.object "java/lang/String")
  | 1 => (.object "java/lang/String")
  | 2 => .boolean
  | 3 => .int
  | 4 => .boolean
  | 5 => .long
  | 6 => (.object "RelayHall$Table")
  | 7 => (.array .byte)
  | 8 => .int
  | 9 => (.object "RelayHall$Queue")
  | 10 => .boolean
  | 11 => .int
  | 12 => .int
  | 13 => .int
  | 14 => .boolean
  | 15 => .int
  | 16 => (.object "RelayHall$Consumer")
  | 17 => .int
  | _ => .boolean
theorem xN_16 : ∀ a, a < 19 → ∀ b, b < 19 → a ≠ b → (xT_16 a).2.1 ≠ (xT_16 b).2.1 := by decide +kernel
theorem xYo_16 : ∀ k, k < 19 → parseFieldDescriptor (xT_16 k).2.2.1 = some (xY_16 k) := by decide +kernel
theorem xws_16 : ∀ w ∈ u_ws "RelayHall$Message" xT_16 19, w ∈ lw_G := by
  have e : u_ws "RelayHall$Message" xT_16 19 = [Cond.laysFinal "RelayHall$Message" "RelayHall$Message" "exchange" "Ljava/lang/String;", Cond.laysFinal "RelayHall$Message" "RelayHall$Message" "key" "Ljava/lang/String;", Cond.laysFinal "RelayHall$Message" "RelayHall$Message" "mandatory" "Z", Cond.lays "RelayHall$Message" "RelayHall$Message" "priority" "I", Cond.lays "RelayHall$Message" "RelayHall$Message" "persistent" "Z", Cond.lays "RelayHall$Message" "RelayHall$Message" "expiration" "J", Cond.lays "RelayHall$Message" "RelayHall$Message" "headers" "LRelayHall$Table;", Cond.lays "RelayHall$Message" "RelayHall$Message" "body" "[B", Cond.lays "RelayHall$Message" "RelayHall$Message" "deaths" "I", Cond.lays "RelayHall$Message" "RelayHall$Message" "queue" "LRelayHall$Queue;", Cond.lays "RelayHall$Message" "RelayHall$Message" "recorded" "Z", Cond.lays "RelayHall$Message" "RelayHall$Message" "number" "I", Cond.lays "RelayHall$Message" "RelayHall$Message" "rank" "I", Cond.lays "RelayHall$Message" "RelayHall$Message" "came" "I", Cond.lays "RelayHall$Message" "RelayHall$Message" "redelivered" "Z", Cond.lays "RelayHall$Message" "RelayHall$Message" "tag" "I", Cond.lays "RelayHall$Message" "RelayHall$Message" "consumer" "LRelayHall$Consumer;", Cond.lays "RelayHall$Message" "RelayHall$Message" "mark" "I", Cond.lays "RelayHall$Message" "RelayHall$Durable" "safe" "Z"] := by decide +kernel
  rw [e]
  exact (List.forall_mem_cons.mpr ⟨x_gw (inT_7 _ (List.mem_of_getElem? (i := 185) rfl)) (by decide +kernel), (List.forall_mem_cons.mpr ⟨x_gw (inT_7 _ (List.mem_of_getElem? (i := 187) rfl)) (by decide +kernel), (List.forall_mem_cons.mpr ⟨x_gw (inT_7 _ (List.mem_of_getElem? (i := 189) rfl)) (by decide +kernel), (List.forall_mem_cons.mpr ⟨x_gw (inT_7 _ (List.mem_of_getElem? (i := 191) rfl)) (by decide +kernel), (List.forall_mem_cons.mpr ⟨x_gw (inT_7 _ (List.mem_of_getElem? (i := 193) rfl)) (by decide +kernel), (List.forall_mem_cons.mpr ⟨x_gw (inT_7 _ (List.mem_of_getElem? (i := 195) rfl)) (by decide +kernel), (List.forall_mem_cons.mpr ⟨x_gw (inT_7 _ (List.mem_of_getElem? (i := 197) rfl)) (by decide +kernel), (List.forall_mem_cons.mpr ⟨x_gw (inT_7 _ (List.mem_of_getElem? (i := 199) rfl)) (by decide +kernel), (List.forall_mem_cons.mpr ⟨x_gw (inT_7 _ (List.mem_of_getElem? (i := 201) rfl)) (by decide +kernel), (List.forall_mem_cons.mpr ⟨x_gw (inT_7 _ (List.mem_of_getElem? (i := 203) rfl)) (by decide +kernel), (List.forall_mem_cons.mpr ⟨x_gw (inT_7 _ (List.mem_of_getElem? (i := 205) rfl)) (by decide +kernel), (List.forall_mem_cons.mpr ⟨x_gw (inT_7 _ (List.mem_of_getElem? (i := 207) rfl)) (by decide +kernel), (List.forall_mem_cons.mpr ⟨x_gw (inT_7 _ (List.mem_of_getElem? (i := 209) rfl)) (by decide +kernel), (List.forall_mem_cons.mpr ⟨x_gw (inT_7 _ (List.mem_of_getElem? (i := 211) rfl)) (by decide +kernel), (List.forall_mem_cons.mpr ⟨x_gw (inT_7 _ (List.mem_of_getElem? (i := 213) rfl)) (by decide +kernel), (List.forall_mem_cons.mpr ⟨x_gw (inT_7 _ (List.mem_of_getElem? (i := 215) rfl)) (by decide +kernel), (List.forall_mem_cons.mpr ⟨x_gw (inT_7 _ (List.mem_of_getElem? (i := 217) rfl)) (by decide +kernel), (List.forall_mem_cons.mpr ⟨x_gw (inT_7 _ (List.mem_of_getElem? (i := 219) rfl)) (by decide +kernel), (List.forall_mem_cons.mpr ⟨x_gw (inT_7 _ (List.mem_of_getElem? (i := 221) rfl)) (by decide +kernel), (fun _ h => absurd h List.not_mem_nil)⟩)⟩)⟩)⟩)⟩)⟩)⟩)⟩)⟩)⟩)⟩)⟩)⟩)⟩)⟩)⟩)⟩)⟩)⟩)
def xD_16 : List Value := [.null, .null, .int 0, .int 0, .int 0, .long 0, .null, .null, .int 0, .null, .int 0, .int 0, .int 0, .int 0, .int 0, .int 0, .null, .int 0, .int 0]
theorem xDo_16 {ad : Nat → Nat} : ∀ j, j < 19 → defaultValue (xY_16 j) = vp_V (xD_16.map (x_v ad)) j := x_dv 19 (by decide +kernel)
def xT_17 : u_T := fun k => match k with
  | 0 => ("java/lang/Throwable", "cause", "Ljava/lang/Throwable;", false)
  | 1 => ("java/lang/Throwable", "stackTrace", "[Ljava/lang/StackTraceElement;", false)
  | 2 => ("java/lang/Throwable", "suppressedExceptions", "Ljava/util/List;", false)
  | 3 => ("java/lang/Throwable", "detailMessage", "Ljava/lang/String;", false)
  | 4 => ("java/lang/Throwable", "backtrace", "Ljava/lang/Object;", false)
  | _ => ("java/lang/Throwable", "depth", "I", false)
def xY_17 : Nat → FieldType := fun k => match k with
  | 0 => (.object "java/lang/Throwable")
  | 1 => (.array (.object "java/lang/StackTraceElement"))
  | 2 => (.object "java/util/List")
  | 3 => (.object "java/lang/String")
  | 4 => (.object "java/lang/Object")
  | _ => .int
theorem xN_17 : ∀ a, a < 6 → ∀ b, b < 6 → a ≠ b → (xT_17 a).2.1 ≠ (xT_17 b).2.1 := by decide +kernel
theorem xYo_17 : ∀ k, k < 6 → parseFieldDescriptor (xT_17 k).2.2.1 = some (xY_17 k) := by decide +kernel
theorem xws_17 : ∀ w ∈ u_ws "java/lang/IndexOutOfBoundsException" xT_17 6, w ∈ lw_G := by
  have e : u_ws "java/lang/IndexOutOfBoundsException" xT_17 6 = [Cond.lays "java/lang/IndexOutOfBoundsException" "java/lang/Throwable" "cause" "Ljava/lang/Throwable;", Cond.lays "java/lang/IndexOutOfBoundsException" "java/lang/Throwable" "stackTrace" "[Ljava/lang/StackTraceElement;", Cond.lays "java/lang/IndexOutOfBoundsException" "java/lang/Throwable" "suppressedExceptions" "Ljava/util/List;", Cond.lays "java/lang/IndexOutOfBoundsException" "java/lang/Throwable" "detailMessage" "Ljava/lang/String;", Cond.lays "java/lang/IndexOutOfBoundsException" "java/lang/Throwable" "backtrace" "Ljava/lang/Object;", Cond.lays "java/lang/IndexOutOfBoundsException" "java/lang/Throwable" "depth" "I"] := by decide +kernel
  rw [e]
  exact (List.forall_mem_cons.mpr ⟨x_gw (inT_8 _ (List.mem_of_getElem? (i := 72) rfl)) (by decide +kernel), (List.forall_mem_cons.mpr ⟨x_gw (inT_8 _ (List.mem_of_getElem? (i := 73) rfl)) (by decide +kernel), (List.forall_mem_cons.mpr ⟨x_gw (inT_8 _ (List.mem_of_getElem? (i := 74) rfl)) (by decide +kernel), (List.forall_mem_cons.mpr ⟨x_gw (inT_8 _ (List.mem_of_getElem? (i := 75) rfl)) (by decide +kernel), (List.forall_mem_cons.mpr ⟨x_gw (inT_8 _ (List.mem_of_getElem? (i := 76) rfl)) (by decide +kernel), (List.forall_mem_cons.mpr ⟨x_gw (inT_8 _ (List.mem_of_getElem? (i := 89) rfl)) (by decide +kernel), (fun _ h => absurd h List.not_mem_nil)⟩)⟩)⟩)⟩)⟩)⟩)
def xD_17 : List Value := [.null, .null, .null, .null, .null, .int 0]
theorem xDo_17 {ad : Nat → Nat} : ∀ j, j < 6 → defaultValue (xY_17 j) = vp_V (xD_17.map (x_v ad)) j := x_dv 6 (by decide +kernel)
def xT_18 : u_T := fun k => match k with
  | _ => ("java/lang/Integer", "value", "I", true)
def xY_18 : Nat → FieldType := fun k => match k with
  | _ => .int
theorem xN_18 : ∀ a, a < 1 → ∀ b, b < 1 → a ≠ b → (xT_18 a).2.1 ≠ (xT_18 b).2.1 := by decide +kernel
theorem xYo_18 : ∀ k, k < 1 → parseFieldDescriptor (xT_18 k).2.2.1 = some (xY_18 k) := by decide +kernel
theorem xws_18 : ∀ w ∈ u_ws "java/lang/Integer" xT_18 1, w ∈ lw_G := by
  have e : u_ws "java/lang/Integer" xT_18 1 = [Cond.laysFinal "java/lang/Integer" "java/lang/Integer" "value" "I"] := by decide +kernel
  rw [e]
  exact (List.forall_mem_cons.mpr ⟨x_gw (inT_8 _ (List.mem_of_getElem? (i := 211) rfl)) (by decide +kernel), (fun _ h => absurd h List.not_mem_nil)⟩)
def xD_18 : List Value := [.int 0]
theorem xDo_18 {ad : Nat → Nat} : ∀ j, j < 1 → defaultValue (xY_18 j) = vp_V (xD_18.map (x_v ad)) j := x_dv 1 (by decide +kernel)
def xT_19 : u_T := fun k => match k with
  | 0 => ("java/lang/Throwable", "cause", "Ljava/lang/Throwable;", false)
  | 1 => ("java/lang/Throwable", "stackTrace", "[Ljava/lang/StackTraceElement;", false)
  | 2 => ("java/lang/Throwable", "suppressedExceptions", "Ljava/util/List;", false)
  | 3 => ("java/lang/Throwable", "detailMessage", "Ljava/lang/String;", false)
  | 4 => ("java/lang/Throwable", "backtrace", "Ljava/lang/Object;", false)
  | _ => ("java/lang/Throwable", "depth", "I", false)
def xY_19 : Nat → FieldType := fun k => match k with
  | 0 => (.object "java/lang/Throwable")
  | 1 => (.array (.object "java/lang/StackTraceElement"))
  | 2 => (.object "java/util/List")
  | 3 => (.object "java/lang/String")
  | 4 => (.object "java/lang/Object")
  | _ => .int
theorem xN_19 : ∀ a, a < 6 → ∀ b, b < 6 → a ≠ b → (xT_19 a).2.1 ≠ (xT_19 b).2.1 := by decide +kernel
theorem xYo_19 : ∀ k, k < 6 → parseFieldDescriptor (xT_19 k).2.2.1 = some (xY_19 k) := by decide +kernel
theorem xws_19 : ∀ w ∈ u_ws "java/util/NoSuchElementException" xT_19 6, w ∈ lw_G := by
  have e : u_ws "java/util/NoSuchElementException" xT_19 6 = [Cond.lays "java/util/NoSuchElementException" "java/lang/Throwable" "cause" "Ljava/lang/Throwable;", Cond.lays "java/util/NoSuchElementException" "java/lang/Throwable" "stackTrace" "[Ljava/lang/StackTraceElement;", Cond.lays "java/util/NoSuchElementException" "java/lang/Throwable" "suppressedExceptions" "Ljava/util/List;", Cond.lays "java/util/NoSuchElementException" "java/lang/Throwable" "detailMessage" "Ljava/lang/String;", Cond.lays "java/util/NoSuchElementException" "java/lang/Throwable" "backtrace" "Ljava/lang/Object;", Cond.lays "java/util/NoSuchElementException" "java/lang/Throwable" "depth" "I"] := by decide +kernel
  rw [e]
  exact (List.forall_mem_cons.mpr ⟨x_gw (inT_9 _ (List.mem_of_getElem? (i := 94) rfl)) (by decide +kernel), (List.forall_mem_cons.mpr ⟨x_gw (inT_9 _ (List.mem_of_getElem? (i := 95) rfl)) (by decide +kernel), (List.forall_mem_cons.mpr ⟨x_gw (inT_9 _ (List.mem_of_getElem? (i := 96) rfl)) (by decide +kernel), (List.forall_mem_cons.mpr ⟨x_gw (inT_9 _ (List.mem_of_getElem? (i := 97) rfl)) (by decide +kernel), (List.forall_mem_cons.mpr ⟨x_gw (inT_9 _ (List.mem_of_getElem? (i := 98) rfl)) (by decide +kernel), (List.forall_mem_cons.mpr ⟨x_gw (inT_9 _ (List.mem_of_getElem? (i := 103) rfl)) (by decide +kernel), (fun _ h => absurd h List.not_mem_nil)⟩)⟩)⟩)⟩)⟩)⟩)
def xD_19 : List Value := [.null, .null, .null, .null, .null, .int 0]
theorem xDo_19 {ad : Nat → Nat} : ∀ j, j < 6 → defaultValue (xY_19 j) = vp_V (xD_19.map (x_v ad)) j := x_dv 6 (by decide +kernel)
def xT_20 : u_T := fun k => match k with
  | 0 => ("RelayHallModel", "connections", "[LRelayHallModel$Connection;", true)
  | 1 => ("RelayHallModel", "exchanges", "[LRelayHallModel$Exchange;", true)
  | 2 => ("RelayHallModel", "queues", "[LRelayHallModel$Queue;", true)
  | 3 => ("RelayHallModel", "bindings", "[LRelayHallModel$Binding;", true)
  | 4 => ("RelayHallModel", "consumers", "[LRelayHallModel$Consumer;", true)
  | 5 => ("RelayHallModel", "exchangeMany", "I", false)
  | 6 => ("RelayHallModel", "queueMany", "I", false)
  | 7 => ("RelayHallModel", "bindingMany", "I", false)
  | 8 => ("RelayHallModel", "consumerMany", "I", false)
  | 9 => ("RelayHallModel", "messages", "I", false)
  | 10 => ("RelayHallModel", "lastNumber", "I", false)
  | 11 => ("RelayHallModel", "generated", "I", false)
  | 12 => ("RelayHallModel", "clock", "I", false)
  | 13 => ("RelayHallModel", "deadOnes", "I", false)
  | 14 => ("RelayHallModel", "dead", "[LRelayHallModel$Dead;", true)
  | 15 => ("RelayHallModel", "deadMany", "I", false)
  | 16 => ("RelayHallModel", "facts", "[LRelayHallModel$Fact;", false)
  | 17 => ("RelayHallModel", "factMany", "I", false)
  | 18 => ("RelayHallModel", "safeExchanges", "[LRelayHallModel$Exchange;", true)
  | 19 => ("RelayHallModel", "safeQueues", "[LRelayHallModel$Queue;", true)
  | 20 => ("RelayHallModel", "safeBindings", "[LRelayHallModel$Binding;", true)
  | 21 => ("RelayHallModel", "safeEntries", "[LRelayHallModel$Entry;", false)
  | 22 => ("RelayHallModel", "safeExchangeMany", "I", false)
  | 23 => ("RelayHallModel", "safeQueueMany", "I", false)
  | 24 => ("RelayHallModel", "safeBindingMany", "I", false)
  | 25 => ("RelayHallModel", "safeEntryMany", "I", false)
  | 26 => ("RelayHallModel", "tape", "[B", true)
  | 27 => ("RelayHallModel", "tapeLong", "I", false)
  | 28 => ("RelayHallModel", "thrown", "I", false)
  | 29 => ("RelayHallModel", "frame", "[B", true)
  | 30 => ("RelayHallModel", "frameLong", "I", false)
  | 31 => ("RelayHallModel", "at", "I", false)
  | 32 => ("RelayHallModel", "theClass", "I", false)
  | 33 => ("RelayHallModel", "theMethod", "I", false)
  | 34 => ("RelayHallModel", "bad", "Z", false)
  | 35 => ("RelayHallModel", "draft", "[B", true)
  | 36 => ("RelayHallModel", "draftLong", "I", false)
  | 37 => ("RelayHallModel", "sizeAt", "I", false)
  | 38 => ("RelayHallModel", "patternFrom", "[I", true)
  | 39 => ("RelayHallModel", "patternTo", "[I", true)
  | 40 => ("RelayHallModel", "keyFrom", "[I", true)
  | 41 => ("RelayHallModel", "keyTo", "[I", true)
  | 42 => ("RelayHallModel", "row", "[Z", true)
  | 43 => ("RelayHallModel", "nextRow", "[Z", true)
  | 44 => ("RelayHallModel", "routed", "[LRelayHallModel$Queue;", true)
  | _ => ("RelayHallModel", "crashes", "I", false)
def xY_20 : Nat → FieldType := fun k => match k with
  | 0 => (.array (.object "RelayHallModel$Connection"))
  | 1 => (.array (.object "RelayHallModel$Exchange"))
  | 2 => (.array (.object "RelayHallModel$Queue"))
  | 3 => (.array (.object "RelayHallModel$Binding"))
  | 4 => (.array (.object "RelayHallModel$Consumer"))
  | 5 => .int
  | 6 => .int
  | 7 => .int
  | 8 => .int
  | 9 => .int
  | 10 => .int
  | 11 => .int
  | 12 => .int
  | 13 => .int
  | 14 => (.array (.object "RelayHallModel$Dead"))
  | 15 => .int
  | 16 => (.array (.object "RelayHallModel$Fact"))
  | 17 => .int
  | 18 => (.array (.object "RelayHallModel$Exchange"))
  | 19 => (.array (.object "RelayHallModel$Queue"))
  | 20 => (.array (.object "RelayHallModel$Binding"))
  | 21 => (.array (.object "RelayHallModel$Entry"))
  | 22 => .int
  | 23 => .int
  | 24 => .int
  | 25 => .int
  | 26 => (.array .byte)
  | 27 => .int
  | 28 => .int
  | 29 => (.array .byte)
  | 30 => .int
  | 31 => .int
  | 32 => .int
  | 33 => .int
  | 34 => .boolean
  | 35 => (.array .byte)
  | 36 => .int
  | 37 => .int
  | 38 => (.array .int)
  | 39 => (.array .int)
  | 40 => (.array .int)
  | 41 => (.array .int)
  | 42 => (.array .boolean)
  | 43 => (.array .boolean)
  | 44 => (.array (.object "RelayHallModel$Queue"))
  | _ => .int
theorem xN_20 : ∀ a, a < 46 → ∀ b, b < 46 → a ≠ b → (xT_20 a).2.1 ≠ (xT_20 b).2.1 := by decide +kernel
theorem xYo_20 : ∀ k, k < 46 → parseFieldDescriptor (xT_20 k).2.2.1 = some (xY_20 k) := by decide +kernel
theorem xws_20 : ∀ w ∈ u_ws "RelayHallModel" xT_20 46, w ∈ lw_G := by
  have e : u_ws "RelayHallModel" xT_20 46 = [Cond.laysFinal "RelayHallModel" "RelayHallModel" "connections" "[LRelayHallModel$Connection;", Cond.laysFinal "RelayHallModel" "RelayHallModel" "exchanges" "[LRelayHallModel$Exchange;", Cond.laysFinal "RelayHallModel" "RelayHallModel" "queues" "[LRelayHallModel$Queue;", Cond.laysFinal "RelayHallModel" "RelayHallModel" "bindings" "[LRelayHallModel$Binding;", Cond.laysFinal "RelayHallModel" "RelayHallModel" "consumers" "[LRelayHallModel$Consumer;", Cond.lays "RelayHallModel" "RelayHallModel" "exchangeMany" "I", Cond.lays "RelayHallModel" "RelayHallModel" "queueMany" "I", Cond.lays "RelayHallModel" "RelayHallModel" "bindingMany" "I", Cond.lays "RelayHallModel" "RelayHallModel" "consumerMany" "I", Cond.lays "RelayHallModel" "RelayHallModel" "messages" "I", Cond.lays "RelayHallModel" "RelayHallModel" "lastNumber" "I", Cond.lays "RelayHallModel" "RelayHallModel" "generated" "I", Cond.lays "RelayHallModel" "RelayHallModel" "clock" "I", Cond.lays "RelayHallModel" "RelayHallModel" "deadOnes" "I", Cond.laysFinal "RelayHallModel" "RelayHallModel" "dead" "[LRelayHallModel$Dead;", Cond.lays "RelayHallModel" "RelayHallModel" "deadMany" "I", Cond.lays "RelayHallModel" "RelayHallModel" "facts" "[LRelayHallModel$Fact;", Cond.lays "RelayHallModel" "RelayHallModel" "factMany" "I", Cond.laysFinal "RelayHallModel" "RelayHallModel" "safeExchanges" "[LRelayHallModel$Exchange;", Cond.laysFinal "RelayHallModel" "RelayHallModel" "safeQueues" "[LRelayHallModel$Queue;", Cond.laysFinal "RelayHallModel" "RelayHallModel" "safeBindings" "[LRelayHallModel$Binding;", Cond.lays "RelayHallModel" "RelayHallModel" "safeEntries" "[LRelayHallModel$Entry;", Cond.lays "RelayHallModel" "RelayHallModel" "safeExchangeMany" "I", Cond.lays "RelayHallModel" "RelayHallModel" "safeQueueMany" "I", Cond.lays "RelayHallModel" "RelayHallModel" "safeBindingMany" "I", Cond.lays "RelayHallModel" "RelayHallModel" "safeEntryMany" "I", Cond.laysFinal "RelayHallModel" "RelayHallModel" "tape" "[B", Cond.lays "RelayHallModel" "RelayHallModel" "tapeLong" "I", Cond.lays "RelayHallModel" "RelayHallModel" "thrown" "I", Cond.laysFinal "RelayHallModel" "RelayHallModel" "frame" "[B", Cond.lays "RelayHallModel" "RelayHallModel" "frameLong" "I", Cond.lays "RelayHallModel" "RelayHallModel" "at" "I", Cond.lays "RelayHallModel" "RelayHallModel" "theClass" "I", Cond.lays "RelayHallModel" "RelayHallModel" "theMethod" "I", Cond.lays "RelayHallModel" "RelayHallModel" "bad" "Z", Cond.laysFinal "RelayHallModel" "RelayHallModel" "draft" "[B", Cond.lays "RelayHallModel" "RelayHallModel" "draftLong" "I", Cond.lays "RelayHallModel" "RelayHallModel" "sizeAt" "I", Cond.laysFinal "RelayHallModel" "RelayHallModel" "patternFrom" "[I", Cond.laysFinal "RelayHallModel" "RelayHallModel" "patternTo" "[I", Cond.laysFinal "RelayHallModel" "RelayHallModel" "keyFrom" "[I", Cond.laysFinal "RelayHallModel" "RelayHallModel" "keyTo" "[I", Cond.laysFinal "RelayHallModel" "RelayHallModel" "row" "[Z", Cond.laysFinal "RelayHallModel" "RelayHallModel" "nextRow" "[Z", Cond.laysFinal "RelayHallModel" "RelayHallModel" "routed" "[LRelayHallModel$Queue;", Cond.lays "RelayHallModel" "RelayHallModel" "crashes" "I"] := by decide +kernel
  rw [e]
  exact (List.forall_mem_cons.mpr ⟨x_gw (inT_10 _ (List.mem_of_getElem? (i := 145) rfl)) (by decide +kernel), (List.forall_mem_cons.mpr ⟨x_gw (inT_10 _ (List.mem_of_getElem? (i := 147) rfl)) (by decide +kernel), (List.forall_mem_cons.mpr ⟨x_gw (inT_10 _ (List.mem_of_getElem? (i := 149) rfl)) (by decide +kernel), (List.forall_mem_cons.mpr ⟨x_gw (inT_10 _ (List.mem_of_getElem? (i := 151) rfl)) (by decide +kernel), (List.forall_mem_cons.mpr ⟨x_gw (inT_10 _ (List.mem_of_getElem? (i := 153) rfl)) (by decide +kernel), (List.forall_mem_cons.mpr ⟨x_gw (inT_10 _ (List.mem_of_getElem? (i := 155) rfl)) (by decide +kernel), (List.forall_mem_cons.mpr ⟨x_gw (inT_10 _ (List.mem_of_getElem? (i := 157) rfl)) (by decide +kernel), (List.forall_mem_cons.mpr ⟨x_gw (inT_10 _ (List.mem_of_getElem? (i := 159) rfl)) (by decide +kernel), (List.forall_mem_cons.mpr ⟨x_gw (inT_10 _ (List.mem_of_getElem? (i := 161) rfl)) (by decide +kernel), (List.forall_mem_cons.mpr ⟨x_gw (inT_10 _ (List.mem_of_getElem? (i := 163) rfl)) (by decide +kernel), (List.forall_mem_cons.mpr ⟨x_gw (inT_10 _ (List.mem_of_getElem? (i := 165) rfl)) (by decide +kernel), (List.forall_mem_cons.mpr ⟨x_gw (inT_10 _ (List.mem_of_getElem? (i := 167) rfl)) (by decide +kernel), (List.forall_mem_cons.mpr ⟨x_gw (inT_10 _ (List.mem_of_getElem? (i := 169) rfl)) (by decide +kernel), (List.forall_mem_cons.mpr ⟨x_gw (inT_10 _ (List.mem_of_getElem? (i := 171) rfl)) (by decide +kernel), (List.forall_mem_cons.mpr ⟨x_gw (inT_10 _ (List.mem_of_getElem? (i := 173) rfl)) (by decide +kernel), (List.forall_mem_cons.mpr ⟨x_gw (inT_10 _ (List.mem_of_getElem? (i := 175) rfl)) (by decide +kernel), (List.forall_mem_cons.mpr ⟨x_gw (inT_10 _ (List.mem_of_getElem? (i := 177) rfl)) (by decide +kernel), (List.forall_mem_cons.mpr ⟨x_gw (inT_10 _ (List.mem_of_getElem? (i := 179) rfl)) (by decide +kernel), (List.forall_mem_cons.mpr ⟨x_gw (inT_10 _ (List.mem_of_getElem? (i := 181) rfl)) (by decide +kernel), (List.forall_mem_cons.mpr ⟨x_gw (inT_10 _ (List.mem_of_getElem? (i := 183) rfl)) (by decide +kernel), (List.forall_mem_cons.mpr ⟨x_gw (inT_10 _ (List.mem_of_getElem? (i := 185) rfl)) (by decide +kernel), (List.forall_mem_cons.mpr ⟨x_gw (inT_10 _ (List.mem_of_getElem? (i := 187) rfl)) (by decide +kernel), (List.forall_mem_cons.mpr ⟨x_gw (inT_10 _ (List.mem_of_getElem? (i := 189) rfl)) (by decide +kernel), (List.forall_mem_cons.mpr ⟨x_gw (inT_10 _ (List.mem_of_getElem? (i := 191) rfl)) (by decide +kernel), (List.forall_mem_cons.mpr ⟨x_gw (inT_10 _ (List.mem_of_getElem? (i := 193) rfl)) (by decide +kernel), (List.forall_mem_cons.mpr ⟨x_gw (inT_10 _ (List.mem_of_getElem? (i := 195) rfl)) (by decide +kernel), (List.forall_mem_cons.mpr ⟨x_gw (inT_10 _ (List.mem_of_getElem? (i := 197) rfl)) (by decide +kernel), (List.forall_mem_cons.mpr ⟨x_gw (inT_10 _ (List.mem_of_getElem? (i := 199) rfl)) (by decide +kernel), (List.forall_mem_cons.mpr ⟨x_gw (inT_10 _ (List.mem_of_getElem? (i := 201) rfl)) (by decide +kernel), (List.forall_mem_cons.mpr ⟨x_gw (inT_10 _ (List.mem_of_getElem? (i := 203) rfl)) (by decide +kernel), (List.forall_mem_cons.mpr ⟨x_gw (inT_10 _ (List.mem_of_getElem? (i := 205) rfl)) (by decide +kernel), (List.forall_mem_cons.mpr ⟨x_gw (inT_10 _ (List.mem_of_getElem? (i := 207) rfl)) (by decide +kernel), (List.forall_mem_cons.mpr ⟨x_gw (inT_10 _ (List.mem_of_getElem? (i := 209) rfl)) (by decide +kernel), (List.forall_mem_cons.mpr ⟨x_gw (inT_10 _ (List.mem_of_getElem? (i := 211) rfl)) (by decide +kernel), (List.forall_mem_cons.mpr ⟨x_gw (inT_10 _ (List.mem_of_getElem? (i := 213) rfl)) (by decide +kernel), (List.forall_mem_cons.mpr ⟨x_gw (inT_10 _ (List.mem_of_getElem? (i := 215) rfl)) (by decide +kernel), (List.forall_mem_cons.mpr ⟨x_gw (inT_10 _ (List.mem_of_getElem? (i := 217) rfl)) (by decide +kernel), (List.forall_mem_cons.mpr ⟨x_gw (inT_10 _ (List.mem_of_getElem? (i := 219) rfl)) (by decide +kernel), (List.forall_mem_cons.mpr ⟨x_gw (inT_10 _ (List.mem_of_getElem? (i := 221) rfl)) (by decide +kernel), (List.forall_mem_cons.mpr ⟨x_gw (inT_10 _ (List.mem_of_getElem? (i := 223) rfl)) (by decide +kernel), (List.forall_mem_cons.mpr ⟨x_gw (inT_10 _ (List.mem_of_getElem? (i := 225) rfl)) (by decide +kernel), (List.forall_mem_cons.mpr ⟨x_gw (inT_10 _ (List.mem_of_getElem? (i := 227) rfl)) (by decide +kernel), (List.forall_mem_cons.mpr ⟨x_gw (inT_10 _ (List.mem_of_getElem? (i := 229) rfl)) (by decide +kernel), (List.forall_mem_cons.mpr ⟨x_gw (inT_10 _ (List.mem_of_getElem? (i := 231) rfl)) (by decide +kernel), (List.forall_mem_cons.mpr ⟨x_gw (inT_10 _ (List.mem_of_getElem? (i := 233) rfl)) (by decide +kernel), (List.forall_mem_cons.mpr ⟨x_gw (inT_10 _ (List.mem_of_getElem? (i := 235) rfl)) (by decide +kernel), (fun _ h => absurd h List.not_mem_nil)⟩)⟩)⟩)⟩)⟩)⟩)⟩)⟩)⟩)⟩)⟩)⟩)⟩)⟩)⟩)⟩)⟩)⟩)⟩)⟩)⟩)⟩)⟩)⟩)⟩)⟩)⟩)⟩)⟩)⟩)⟩)⟩)⟩)⟩)⟩)⟩)⟩)⟩)⟩)⟩)⟩)⟩)⟩)⟩)⟩)⟩)
def xD_20 : List Value := [.null, .null, .null, .null, .null, .int 0, .int 0, .int 0, .int 0, .int 0, .int 0, .int 0, .int 0, .int 0, .null, .int 0, .null, .int 0, .null, .null, .null, .null, .int 0, .int 0, .int 0, .int 0, .null, .int 0, .int 0, .null, .int 0, .int 0, .int 0, .int 0, .int 0, .null, .int 0, .int 0, .null, .null, .null, .null, .null, .null, .null, .int 0]
theorem xDo_20 {ad : Nat → Nat} : ∀ j, j < 46 → defaultValue (xY_20 j) = vp_V (xD_20.map (x_v ad)) j := x_dv 46 (by decide +kernel)
def xT_21 : u_T := fun k => match k with
  | 0 => ("RelayHallModel$Connection", "number", "I", false)
  | 1 => ("RelayHallModel$Connection", "state", "I", false)
  | 2 => ("RelayHallModel$Connection", "heartbeat", "I", false)
  | 3 => ("RelayHallModel$Connection", "inLong", "I", false)
  | 4 => ("RelayHallModel$Connection", "outFrom", "I", false)
  | 5 => ("RelayHallModel$Connection", "outLong", "I", false)
  | 6 => ("RelayHallModel$Connection", "lastIn", "I", false)
  | 7 => ("RelayHallModel$Connection", "lastOut", "I", false)
  | 8 => ("RelayHallModel$Connection", "closingAt", "I", false)
  | 9 => ("RelayHallModel$Connection", "deaf", "Z", false)
  | 10 => ("RelayHallModel$Connection", "in", "[B", true)
  | 11 => ("RelayHallModel$Connection", "out", "[B", true)
  | _ => ("RelayHallModel$Connection", "channels", "[LRelayHallModel$Channel;", true)
def xY_21 : Nat → FieldType := fun k => match k with
  | 0 => .int
  | 1 => .int
  | 2 => .int
  | 3 => .int
  | 4 => .int
  | 5 => .int
  | 6 => .int
  | 7 => .int
  | 8 => .int
  | 9 => .boolean
  | 10 => (.array .byte)
  | 11 => (.array .byte)
  | _ => (.array (.object "RelayHallModel$Channel"))
theorem xN_21 : ∀ a, a < 13 → ∀ b, b < 13 → a ≠ b → (xT_21 a).2.1 ≠ (xT_21 b).2.1 := by decide +kernel
theorem xYo_21 : ∀ k, k < 13 → parseFieldDescriptor (xT_21 k).2.2.1 = some (xY_21 k) := by decide +kernel
theorem xws_21 : ∀ w ∈ u_ws "RelayHallModel$Connection" xT_21 13, w ∈ lw_G := by
  have e : u_ws "RelayHallModel$Connection" xT_21 13 = [Cond.lays "RelayHallModel$Connection" "RelayHallModel$Connection" "number" "I", Cond.lays "RelayHallModel$Connection" "RelayHallModel$Connection" "state" "I", Cond.lays "RelayHallModel$Connection" "RelayHallModel$Connection" "heartbeat" "I", Cond.lays "RelayHallModel$Connection" "RelayHallModel$Connection" "inLong" "I", Cond.lays "RelayHallModel$Connection" "RelayHallModel$Connection" "outFrom" "I", Cond.lays "RelayHallModel$Connection" "RelayHallModel$Connection" "outLong" "I", Cond.lays "RelayHallModel$Connection" "RelayHallModel$Connection" "lastIn" "I", Cond.lays "RelayHallModel$Connection" "RelayHallModel$Connection" "lastOut" "I", Cond.lays "RelayHallModel$Connection" "RelayHallModel$Connection" "closingAt" "I", Cond.lays "RelayHallModel$Connection" "RelayHallModel$Connection" "deaf" "Z", Cond.laysFinal "RelayHallModel$Connection" "RelayHallModel$Connection" "in" "[B", Cond.laysFinal "RelayHallModel$Connection" "RelayHallModel$Connection" "out" "[B", Cond.laysFinal "RelayHallModel$Connection" "RelayHallModel$Connection" "channels" "[LRelayHallModel$Channel;"] := by decide +kernel
  rw [e]
  exact (List.forall_mem_cons.mpr ⟨x_gw (inT_10 _ (List.mem_of_getElem? (i := 0) rfl)) (by decide +kernel), (List.forall_mem_cons.mpr ⟨x_gw (inT_10 _ (List.mem_of_getElem? (i := 2) rfl)) (by decide +kernel), (List.forall_mem_cons.mpr ⟨x_gw (inT_10 _ (List.mem_of_getElem? (i := 4) rfl)) (by decide +kernel), (List.forall_mem_cons.mpr ⟨x_gw (inT_10 _ (List.mem_of_getElem? (i := 6) rfl)) (by decide +kernel), (List.forall_mem_cons.mpr ⟨x_gw (inT_10 _ (List.mem_of_getElem? (i := 8) rfl)) (by decide +kernel), (List.forall_mem_cons.mpr ⟨x_gw (inT_10 _ (List.mem_of_getElem? (i := 10) rfl)) (by decide +kernel), (List.forall_mem_cons.mpr ⟨x_gw (inT_10 _ (List.mem_of_getElem? (i := 12) rfl)) (by decide +kernel), (List.forall_mem_cons.mpr ⟨x_gw (inT_10 _ (List.mem_of_getElem? (i := 14) rfl)) (by decide +kernel), (List.forall_mem_cons.mpr ⟨x_gw (inT_10 _ (List.mem_of_getElem? (i := 16) rfl)) (by decide +kernel), (List.forall_mem_cons.mpr ⟨x_gw (inT_10 _ (List.mem_of_getElem? (i := 18) rfl)) (by decide +kernel), (List.forall_mem_cons.mpr ⟨x_gw (inT_10 _ (List.mem_of_getElem? (i := 20) rfl)) (by decide +kernel), (List.forall_mem_cons.mpr ⟨x_gw (inT_10 _ (List.mem_of_getElem? (i := 22) rfl)) (by decide +kernel), (List.forall_mem_cons.mpr ⟨x_gw (inT_10 _ (List.mem_of_getElem? (i := 24) rfl)) (by decide +kernel), (fun _ h => absurd h List.not_mem_nil)⟩)⟩)⟩)⟩)⟩)⟩)⟩)⟩)⟩)⟩)⟩)⟩)⟩)
def xD_21 : List Value := [.int 0, .int 0, .int 0, .int 0, .int 0, .int 0, .int 0, .int 0, .int 0, .int 0, .null, .null, .null]
theorem xDo_21 {ad : Nat → Nat} : ∀ j, j < 13 → defaultValue (xY_21 j) = vp_V (xD_21.map (x_v ad)) j := x_dv 13 (by decide +kernel)
def xT_22 : u_T := fun k => match k with
  | 0 => ("RelayHallModel$Channel", "connection", "LRelayHallModel$Connection;", false)
  | 1 => ("RelayHallModel$Channel", "number", "I", false)
  | 2 => ("RelayHallModel$Channel", "state", "I", false)
  | 3 => ("RelayHallModel$Channel", "mode", "I", false)
  | 4 => ("RelayHallModel$Channel", "limit", "I", false)
  | 5 => ("RelayHallModel$Channel", "comingLimit", "I", false)
  | 6 => ("RelayHallModel$Channel", "tag", "I", false)
  | 7 => ("RelayHallModel$Channel", "confirm", "I", false)
  | 8 => ("RelayHallModel$Channel", "tags", "I", false)
  | 9 => ("RelayHallModel$Channel", "keeps", "I", false)
  | 10 => ("RelayHallModel$Channel", "unacked", "I", false)
  | 11 => ("RelayHallModel$Channel", "waits", "I", false)
  | 12 => ("RelayHallModel$Channel", "due", "I", false)
  | 13 => ("RelayHallModel$Channel", "active", "Z", false)
  | 14 => ("RelayHallModel$Channel", "lastQueue", "[B", false)
  | 15 => ("RelayHallModel$Channel", "content", "LRelayHallModel$Content;", false)
  | 16 => ("RelayHallModel$Channel", "sent", "[LRelayHallModel$Sent;", false)
  | 17 => ("RelayHallModel$Channel", "kept", "[LRelayHallModel$Kept;", true)
  | _ => ("RelayHallModel$Channel", "confirms", "[I", false)
def xY_22 : Nat → FieldType := fun k => match k with
  | 0 => (.object "RelayHallModel$Connection")
  | 1 => .int
  | 2 => .int
  | 3 => .int
  | 4 => .int
  | 5 => .int
  | 6 => .int
  | 7 => .int
  | 8 => .int
  | 9 => .int
  | 10 => .int
  | 11 => .int
  | 12 => .int
  | 13 => .boolean
  | 14 => (.array .byte)
  | 15 => (.object "RelayHallModel$Content")
  | 16 => (.array (.object "RelayHallModel$Sent"))
  | 17 => (.array (.object "RelayHallModel$Kept"))
  | _ => (.array .int)
theorem xN_22 : ∀ a, a < 19 → ∀ b, b < 19 → a ≠ b → (xT_22 a).2.1 ≠ (xT_22 b).2.1 := by decide +kernel
theorem xYo_22 : ∀ k, k < 19 → parseFieldDescriptor (xT_22 k).2.2.1 = some (xY_22 k) := by decide +kernel
theorem xws_22 : ∀ w ∈ u_ws "RelayHallModel$Channel" xT_22 19, w ∈ lw_G := by
  have e : u_ws "RelayHallModel$Channel" xT_22 19 = [Cond.lays "RelayHallModel$Channel" "RelayHallModel$Channel" "connection" "LRelayHallModel$Connection;", Cond.lays "RelayHallModel$Channel" "RelayHallModel$Channel" "number" "I", Cond.lays "RelayHallModel$Channel" "RelayHallModel$Channel" "state" "I", Cond.lays "RelayHallModel$Channel" "RelayHallModel$Channel" "mode" "I", Cond.lays "RelayHallModel$Channel" "RelayHallModel$Channel" "limit" "I", Cond.lays "RelayHallModel$Channel" "RelayHallModel$Channel" "comingLimit" "I", Cond.lays "RelayHallModel$Channel" "RelayHallModel$Channel" "tag" "I", Cond.lays "RelayHallModel$Channel" "RelayHallModel$Channel" "confirm" "I", Cond.lays "RelayHallModel$Channel" "RelayHallModel$Channel" "tags" "I", Cond.lays "RelayHallModel$Channel" "RelayHallModel$Channel" "keeps" "I", Cond.lays "RelayHallModel$Channel" "RelayHallModel$Channel" "unacked" "I", Cond.lays "RelayHallModel$Channel" "RelayHallModel$Channel" "waits" "I", Cond.lays "RelayHallModel$Channel" "RelayHallModel$Channel" "due" "I", Cond.lays "RelayHallModel$Channel" "RelayHallModel$Channel" "active" "Z", Cond.lays "RelayHallModel$Channel" "RelayHallModel$Channel" "lastQueue" "[B", Cond.lays "RelayHallModel$Channel" "RelayHallModel$Channel" "content" "LRelayHallModel$Content;", Cond.lays "RelayHallModel$Channel" "RelayHallModel$Channel" "sent" "[LRelayHallModel$Sent;", Cond.laysFinal "RelayHallModel$Channel" "RelayHallModel$Channel" "kept" "[LRelayHallModel$Kept;", Cond.lays "RelayHallModel$Channel" "RelayHallModel$Channel" "confirms" "[I"] := by decide +kernel
  rw [e]
  exact (List.forall_mem_cons.mpr ⟨x_gw (inT_10 _ (List.mem_of_getElem? (i := 60) rfl)) (by decide +kernel), (List.forall_mem_cons.mpr ⟨x_gw (inT_10 _ (List.mem_of_getElem? (i := 62) rfl)) (by decide +kernel), (List.forall_mem_cons.mpr ⟨x_gw (inT_10 _ (List.mem_of_getElem? (i := 64) rfl)) (by decide +kernel), (List.forall_mem_cons.mpr ⟨x_gw (inT_10 _ (List.mem_of_getElem? (i := 66) rfl)) (by decide +kernel), (List.forall_mem_cons.mpr ⟨x_gw (inT_10 _ (List.mem_of_getElem? (i := 68) rfl)) (by decide +kernel), (List.forall_mem_cons.mpr ⟨x_gw (inT_10 _ (List.mem_of_getElem? (i := 70) rfl)) (by decide +kernel), (List.forall_mem_cons.mpr ⟨x_gw (inT_10 _ (List.mem_of_getElem? (i := 72) rfl)) (by decide +kernel), (List.forall_mem_cons.mpr ⟨x_gw (inT_10 _ (List.mem_of_getElem? (i := 74) rfl)) (by decide +kernel), (List.forall_mem_cons.mpr ⟨x_gw (inT_10 _ (List.mem_of_getElem? (i := 76) rfl)) (by decide +kernel), (List.forall_mem_cons.mpr ⟨x_gw (inT_10 _ (List.mem_of_getElem? (i := 78) rfl)) (by decide +kernel), (List.forall_mem_cons.mpr ⟨x_gw (inT_10 _ (List.mem_of_getElem? (i := 80) rfl)) (by decide +kernel), (List.forall_mem_cons.mpr ⟨x_gw (inT_10 _ (List.mem_of_getElem? (i := 82) rfl)) (by decide +kernel), (List.forall_mem_cons.mpr ⟨x_gw (inT_10 _ (List.mem_of_getElem? (i := 84) rfl)) (by decide +kernel), (List.forall_mem_cons.mpr ⟨x_gw (inT_10 _ (List.mem_of_getElem? (i := 86) rfl)) (by decide +kernel), (List.forall_mem_cons.mpr ⟨x_gw (inT_10 _ (List.mem_of_getElem? (i := 88) rfl)) (by decide +kernel), (List.forall_mem_cons.mpr ⟨x_gw (inT_10 _ (List.mem_of_getElem? (i := 90) rfl)) (by decide +kernel), (List.forall_mem_cons.mpr ⟨x_gw (inT_10 _ (List.mem_of_getElem? (i := 92) rfl)) (by decide +kernel), (List.forall_mem_cons.mpr ⟨x_gw (inT_10 _ (List.mem_of_getElem? (i := 94) rfl)) (by decide +kernel), (List.forall_mem_cons.mpr ⟨x_gw (inT_10 _ (List.mem_of_getElem? (i := 96) rfl)) (by decide +kernel), (fun _ h => absurd h List.not_mem_nil)⟩)⟩)⟩)⟩)⟩)⟩)⟩)⟩)⟩)⟩)⟩)⟩)⟩)⟩)⟩)⟩)⟩)⟩)⟩)
def xD_22 : List Value := [.null, .int 0, .int 0, .int 0, .int 0, .int 0, .int 0, .int 0, .int 0, .int 0, .int 0, .int 0, .int 0, .int 0, .null, .null, .null, .null, .null]
theorem xDo_22 {ad : Nat → Nat} : ∀ j, j < 19 → defaultValue (xY_22 j) = vp_V (xD_22.map (x_v ad)) j := x_dv 19 (by decide +kernel)
def xT_23 : u_T := fun k => match k with
  | 0 => ("RelayHallModel$Fact", "kind", "I", false)
  | 1 => ("RelayHallModel$Fact", "exchange", "LRelayHallModel$Exchange;", false)
  | 2 => ("RelayHallModel$Fact", "queue", "LRelayHallModel$Queue;", false)
  | 3 => ("RelayHallModel$Fact", "binding", "LRelayHallModel$Binding;", false)
  | _ => ("RelayHallModel$Fact", "entry", "LRelayHallModel$Entry;", false)
def xY_23 : Nat → FieldType := fun k => match k with
  | 0 => .int
  | 1 => (.object "RelayHallModel$Exchange")
  | 2 => (.object "RelayHallModel$Queue")
  | 3 => (.object "RelayHallModel$Binding")
  | _ => (.object "RelayHallModel$Entry")
theorem xN_23 : ∀ a, a < 5 → ∀ b, b < 5 → a ≠ b → (xT_23 a).2.1 ≠ (xT_23 b).2.1 := by decide +kernel
theorem xYo_23 : ∀ k, k < 5 → parseFieldDescriptor (xT_23 k).2.2.1 = some (xY_23 k) := by decide +kernel
theorem xws_23 : ∀ w ∈ u_ws "RelayHallModel$Fact" xT_23 5, w ∈ lw_G := by
  have e : u_ws "RelayHallModel$Fact" xT_23 5 = [Cond.lays "RelayHallModel$Fact" "RelayHallModel$Fact" "kind" "I", Cond.lays "RelayHallModel$Fact" "RelayHallModel$Fact" "exchange" "LRelayHallModel$Exchange;", Cond.lays "RelayHallModel$Fact" "RelayHallModel$Fact" "queue" "LRelayHallModel$Queue;", Cond.lays "RelayHallModel$Fact" "RelayHallModel$Fact" "binding" "LRelayHallModel$Binding;", Cond.lays "RelayHallModel$Fact" "RelayHallModel$Fact" "entry" "LRelayHallModel$Entry;"] := by decide +kernel
  rw [e]
  exact (List.forall_mem_cons.mpr ⟨x_gw (inT_11 _ (List.mem_of_getElem? (i := 109) rfl)) (by decide +kernel), (List.forall_mem_cons.mpr ⟨x_gw (inT_11 _ (List.mem_of_getElem? (i := 111) rfl)) (by decide +kernel), (List.forall_mem_cons.mpr ⟨x_gw (inT_11 _ (List.mem_of_getElem? (i := 113) rfl)) (by decide +kernel), (List.forall_mem_cons.mpr ⟨x_gw (inT_11 _ (List.mem_of_getElem? (i := 115) rfl)) (by decide +kernel), (List.forall_mem_cons.mpr ⟨x_gw (inT_11 _ (List.mem_of_getElem? (i := 117) rfl)) (by decide +kernel), (fun _ h => absurd h List.not_mem_nil)⟩)⟩)⟩)⟩)⟩)
def xD_23 : List Value := [.int 0, .null, .null, .null, .null]
theorem xDo_23 {ad : Nat → Nat} : ∀ j, j < 5 → defaultValue (xY_23 j) = vp_V (xD_23.map (x_v ad)) j := x_dv 5 (by decide +kernel)
def xT_24 : u_T := fun k => match k with
  | 0 => ("RelayHallModel$Dead", "entry", "LRelayHallModel$Entry;", false)
  | 1 => ("RelayHallModel$Dead", "exchange", "[B", false)
  | _ => ("RelayHallModel$Dead", "key", "[B", false)
def xY_24 : Nat → FieldType := fun k => match k with
  | 0 => (.object "RelayHallModel$Entry")
  | 1 => (.array .byte)
  | _ => (.array .byte)
theorem xN_24 : ∀ a, a < 3 → ∀ b, b < 3 → a ≠ b → (xT_24 a).2.1 ≠ (xT_24 b).2.1 := by decide +kernel
theorem xYo_24 : ∀ k, k < 3 → parseFieldDescriptor (xT_24 k).2.2.1 = some (xY_24 k) := by decide +kernel
theorem xws_24 : ∀ w ∈ u_ws "RelayHallModel$Dead" xT_24 3, w ∈ lw_G := by
  have e : u_ws "RelayHallModel$Dead" xT_24 3 = [Cond.lays "RelayHallModel$Dead" "RelayHallModel$Dead" "entry" "LRelayHallModel$Entry;", Cond.lays "RelayHallModel$Dead" "RelayHallModel$Dead" "exchange" "[B", Cond.lays "RelayHallModel$Dead" "RelayHallModel$Dead" "key" "[B"] := by decide +kernel
  rw [e]
  exact (List.forall_mem_cons.mpr ⟨x_gw (inT_11 _ (List.mem_of_getElem? (i := 193) rfl)) (by decide +kernel), (List.forall_mem_cons.mpr ⟨x_gw (inT_11 _ (List.mem_of_getElem? (i := 195) rfl)) (by decide +kernel), (List.forall_mem_cons.mpr ⟨x_gw (inT_11 _ (List.mem_of_getElem? (i := 197) rfl)) (by decide +kernel), (fun _ h => absurd h List.not_mem_nil)⟩)⟩)⟩)
def xD_24 : List Value := [.null, .null, .null]
theorem xDo_24 {ad : Nat → Nat} : ∀ j, j < 3 → defaultValue (xY_24 j) = vp_V (xD_24.map (x_v ad)) j := x_dv 3 (by decide +kernel)
def xT_25 : u_T := fun k => match k with
  | 0 => ("RelayHallModel$Entry", "content", "LRelayHallModel$Content;", false)
  | 1 => ("RelayHallModel$Entry", "exchange", "[B", false)
  | 2 => ("RelayHallModel$Entry", "key", "[B", false)
  | 3 => ("RelayHallModel$Entry", "expiration", "J", false)
  | 4 => ("RelayHallModel$Entry", "queue", "LRelayHallModel$Queue;", false)
  | 5 => ("RelayHallModel$Entry", "number", "I", false)
  | 6 => ("RelayHallModel$Entry", "came", "I", false)
  | 7 => ("RelayHallModel$Entry", "deaths", "I", false)
  | 8 => ("RelayHallModel$Entry", "state", "I", false)
  | _ => ("RelayHallModel$Entry", "redelivered", "Z", false)
def xY_25 : Nat → FieldType := fun k => match k with
  | 0 => (.object "RelayHallModel$Content")
  | 1 => (.array .byte)
  | 2 => (.array .byte)
  | 3 => .long
  | 4 => (.object "RelayHallModel$Queue")
  | 5 => .int
  | 6 => .int
  | 7 => .int
  | 8 => .int
  | _ => .boolean
theorem xN_25 : ∀ a, a < 10 → ∀ b, b < 10 → a ≠ b → (xT_25 a).2.1 ≠ (xT_25 b).2.1 := by decide +kernel
theorem xYo_25 : ∀ k, k < 10 → parseFieldDescriptor (xT_25 k).2.2.1 = some (xY_25 k) := by decide +kernel
theorem xws_25 : ∀ w ∈ u_ws "RelayHallModel$Entry" xT_25 10, w ∈ lw_G := by
  have e : u_ws "RelayHallModel$Entry" xT_25 10 = [Cond.lays "RelayHallModel$Entry" "RelayHallModel$Entry" "content" "LRelayHallModel$Content;", Cond.lays "RelayHallModel$Entry" "RelayHallModel$Entry" "exchange" "[B", Cond.lays "RelayHallModel$Entry" "RelayHallModel$Entry" "key" "[B", Cond.lays "RelayHallModel$Entry" "RelayHallModel$Entry" "expiration" "J", Cond.lays "RelayHallModel$Entry" "RelayHallModel$Entry" "queue" "LRelayHallModel$Queue;", Cond.lays "RelayHallModel$Entry" "RelayHallModel$Entry" "number" "I", Cond.lays "RelayHallModel$Entry" "RelayHallModel$Entry" "came" "I", Cond.lays "RelayHallModel$Entry" "RelayHallModel$Entry" "deaths" "I", Cond.lays "RelayHallModel$Entry" "RelayHallModel$Entry" "state" "I", Cond.lays "RelayHallModel$Entry" "RelayHallModel$Entry" "redelivered" "Z"] := by decide +kernel
  rw [e]
  exact (List.forall_mem_cons.mpr ⟨x_gw (inT_12 _ (List.mem_of_getElem? (i := 64) rfl)) (by decide +kernel), (List.forall_mem_cons.mpr ⟨x_gw (inT_12 _ (List.mem_of_getElem? (i := 66) rfl)) (by decide +kernel), (List.forall_mem_cons.mpr ⟨x_gw (inT_12 _ (List.mem_of_getElem? (i := 68) rfl)) (by decide +kernel), (List.forall_mem_cons.mpr ⟨x_gw (inT_12 _ (List.mem_of_getElem? (i := 70) rfl)) (by decide +kernel), (List.forall_mem_cons.mpr ⟨x_gw (inT_12 _ (List.mem_of_getElem? (i := 72) rfl)) (by decide +kernel), (List.forall_mem_cons.mpr ⟨x_gw (inT_12 _ (List.mem_of_getElem? (i := 74) rfl)) (by decide +kernel), (List.forall_mem_cons.mpr ⟨x_gw (inT_12 _ (List.mem_of_getElem? (i := 76) rfl)) (by decide +kernel), (List.forall_mem_cons.mpr ⟨x_gw (inT_12 _ (List.mem_of_getElem? (i := 78) rfl)) (by decide +kernel), (List.forall_mem_cons.mpr ⟨x_gw (inT_12 _ (List.mem_of_getElem? (i := 80) rfl)) (by decide +kernel), (List.forall_mem_cons.mpr ⟨x_gw (inT_12 _ (List.mem_of_getElem? (i := 82) rfl)) (by decide +kernel), (fun _ h => absurd h List.not_mem_nil)⟩)⟩)⟩)⟩)⟩)⟩)⟩)⟩)⟩)⟩)
def xD_25 : List Value := [.null, .null, .null, .long 0, .null, .int 0, .int 0, .int 0, .int 0, .int 0]
theorem xDo_25 {ad : Nat → Nat} : ∀ j, j < 10 → defaultValue (xY_25 j) = vp_V (xD_25.map (x_v ad)) j := x_dv 10 (by decide +kernel)
def xT_26 : u_T := fun k => match k with
  | 0 => ("RelayHallModel$Sent", "tag", "I", false)
  | 1 => ("RelayHallModel$Sent", "entry", "LRelayHallModel$Entry;", false)
  | 2 => ("RelayHallModel$Sent", "consumer", "LRelayHallModel$Consumer;", false)
  | _ => ("RelayHallModel$Sent", "done", "Z", false)
def xY_26 : Nat → FieldType := fun k => match k with
  | 0 => .int
  | 1 => (.object "RelayHallModel$Entry")
  | 2 => (.object "RelayHallModel$Consumer")
  | _ => .boolean
theorem xN_26 : ∀ a, a < 4 → ∀ b, b < 4 → a ≠ b → (xT_26 a).2.1 ≠ (xT_26 b).2.1 := by decide +kernel
theorem xYo_26 : ∀ k, k < 4 → parseFieldDescriptor (xT_26 k).2.2.1 = some (xY_26 k) := by decide +kernel
theorem xws_26 : ∀ w ∈ u_ws "RelayHallModel$Sent" xT_26 4, w ∈ lw_G := by
  have e : u_ws "RelayHallModel$Sent" xT_26 4 = [Cond.lays "RelayHallModel$Sent" "RelayHallModel$Sent" "tag" "I", Cond.lays "RelayHallModel$Sent" "RelayHallModel$Sent" "entry" "LRelayHallModel$Entry;", Cond.lays "RelayHallModel$Sent" "RelayHallModel$Sent" "consumer" "LRelayHallModel$Consumer;", Cond.lays "RelayHallModel$Sent" "RelayHallModel$Sent" "done" "Z"] := by decide +kernel
  rw [e]
  exact (List.forall_mem_cons.mpr ⟨x_gw (inT_12 _ (List.mem_of_getElem? (i := 115) rfl)) (by decide +kernel), (List.forall_mem_cons.mpr ⟨x_gw (inT_12 _ (List.mem_of_getElem? (i := 117) rfl)) (by decide +kernel), (List.forall_mem_cons.mpr ⟨x_gw (inT_12 _ (List.mem_of_getElem? (i := 119) rfl)) (by decide +kernel), (List.forall_mem_cons.mpr ⟨x_gw (inT_12 _ (List.mem_of_getElem? (i := 121) rfl)) (by decide +kernel), (fun _ h => absurd h List.not_mem_nil)⟩)⟩)⟩)⟩)
def xD_26 : List Value := [.int 0, .null, .null, .int 0]
theorem xDo_26 {ad : Nat → Nat} : ∀ j, j < 4 → defaultValue (xY_26 j) = vp_V (xD_26.map (x_v ad)) j := x_dv 4 (by decide +kernel)
def xT_27 : u_T := fun k => match k with
  | 0 => ("RelayHallModel$Table", "many", "I", false)
  | 1 => ("RelayHallModel$Table", "names", "[[B", true)
  | 2 => ("RelayHallModel$Table", "kinds", "[I", true)
  | 3 => ("RelayHallModel$Table", "numbers", "[I", true)
  | 4 => ("RelayHallModel$Table", "texts", "[[B", true)
  | _ => ("RelayHallModel$Table", "raw", "[B", false)
def xY_27 : Nat → FieldType := fun k => match k with
  | 0 => .int
  | 1 => (.array (.array .byte))
  | 2 => (.array .int)
  | 3 => (.array .int)
  | 4 => (.array (.array .byte))
  | _ => (.array .byte)
theorem xN_27 : ∀ a, a < 6 → ∀ b, b < 6 → a ≠ b → (xT_27 a).2.1 ≠ (xT_27 b).2.1 := by decide +kernel
theorem xYo_27 : ∀ k, k < 6 → parseFieldDescriptor (xT_27 k).2.2.1 = some (xY_27 k) := by decide +kernel
theorem xws_27 : ∀ w ∈ u_ws "RelayHallModel$Table" xT_27 6, w ∈ lw_G := by
  have e : u_ws "RelayHallModel$Table" xT_27 6 = [Cond.lays "RelayHallModel$Table" "RelayHallModel$Table" "many" "I", Cond.laysFinal "RelayHallModel$Table" "RelayHallModel$Table" "names" "[[B", Cond.laysFinal "RelayHallModel$Table" "RelayHallModel$Table" "kinds" "[I", Cond.laysFinal "RelayHallModel$Table" "RelayHallModel$Table" "numbers" "[I", Cond.laysFinal "RelayHallModel$Table" "RelayHallModel$Table" "texts" "[[B", Cond.lays "RelayHallModel$Table" "RelayHallModel$Table" "raw" "[B"] := by decide +kernel
  rw [e]
  exact (List.forall_mem_cons.mpr ⟨x_gw (inT_12 _ (List.mem_of_getElem? (i := 220) rfl)) (by decide +kernel), (List.forall_mem_cons.mpr ⟨x_gw (inT_12 _ (List.mem_of_getElem? (i := 222) rfl)) (by decide +kernel), (List.forall_mem_cons.mpr ⟨x_gw (inT_12 _ (List.mem_of_getElem? (i := 224) rfl)) (by decide +kernel), (List.forall_mem_cons.mpr ⟨x_gw (inT_12 _ (List.mem_of_getElem? (i := 226) rfl)) (by decide +kernel), (List.forall_mem_cons.mpr ⟨x_gw (inT_12 _ (List.mem_of_getElem? (i := 228) rfl)) (by decide +kernel), (List.forall_mem_cons.mpr ⟨x_gw (inT_12 _ (List.mem_of_getElem? (i := 230) rfl)) (by decide +kernel), (fun _ h => absurd h List.not_mem_nil)⟩)⟩)⟩)⟩)⟩)⟩)
def xD_27 : List Value := [.int 0, .null, .null, .null, .null, .null]
theorem xDo_27 {ad : Nat → Nat} : ∀ j, j < 6 → defaultValue (xY_27 j) = vp_V (xD_27.map (x_v ad)) j := x_dv 6 (by decide +kernel)
def xT_28 : u_T := fun k => match k with
  | 0 => ("RelayHallModel$Exchange", "name", "[B", false)
  | 1 => ("RelayHallModel$Exchange", "kind", "I", false)
  | 2 => ("RelayHallModel$Exchange", "durable", "Z", false)
  | 3 => ("RelayHallModel$Exchange", "auto", "Z", false)
  | 4 => ("RelayHallModel$Exchange", "internal", "Z", false)
  | 5 => ("RelayHallModel$Exchange", "there", "Z", false)
  | _ => ("RelayHallModel$Exchange", "alternate", "[B", false)
def xY_28 : Nat → FieldType := fun k => match k with
  | 0 => (.array .byte)
  | 1 => .int
  | 2 => .boolean
  | 3 => .boolean
  | 4 => .boolean
  | 5 => .boolean
  | _ => (.array .byte)
theorem xN_28 : ∀ a, a < 7 → ∀ b, b < 7 → a ≠ b → (xT_28 a).2.1 ≠ (xT_28 b).2.1 := by decide +kernel
theorem xYo_28 : ∀ k, k < 7 → parseFieldDescriptor (xT_28 k).2.2.1 = some (xY_28 k) := by decide +kernel
theorem xws_28 : ∀ w ∈ u_ws "RelayHallModel$Exchange" xT_28 7, w ∈ lw_G := by
  have e : u_ws "RelayHallModel$Exchange" xT_28 7 = [Cond.lays "RelayHallModel$Exchange" "RelayHallModel$Exchange" "name" "[B", Cond.lays "RelayHallModel$Exchange" "RelayHallModel$Exchange" "kind" "I", Cond.lays "RelayHallModel$Exchange" "RelayHallModel$Exchange" "durable" "Z", Cond.lays "RelayHallModel$Exchange" "RelayHallModel$Exchange" "auto" "Z", Cond.lays "RelayHallModel$Exchange" "RelayHallModel$Exchange" "internal" "Z", Cond.lays "RelayHallModel$Exchange" "RelayHallModel$Exchange" "there" "Z", Cond.lays "RelayHallModel$Exchange" "RelayHallModel$Exchange" "alternate" "[B"] := by decide +kernel
  rw [e]
  exact (List.forall_mem_cons.mpr ⟨x_gw (inT_13 _ (List.mem_of_getElem? (i := 36) rfl)) (by decide +kernel), (List.forall_mem_cons.mpr ⟨x_gw (inT_13 _ (List.mem_of_getElem? (i := 38) rfl)) (by decide +kernel), (List.forall_mem_cons.mpr ⟨x_gw (inT_13 _ (List.mem_of_getElem? (i := 40) rfl)) (by decide +kernel), (List.forall_mem_cons.mpr ⟨x_gw (inT_13 _ (List.mem_of_getElem? (i := 42) rfl)) (by decide +kernel), (List.forall_mem_cons.mpr ⟨x_gw (inT_13 _ (List.mem_of_getElem? (i := 44) rfl)) (by decide +kernel), (List.forall_mem_cons.mpr ⟨x_gw (inT_13 _ (List.mem_of_getElem? (i := 46) rfl)) (by decide +kernel), (List.forall_mem_cons.mpr ⟨x_gw (inT_13 _ (List.mem_of_getElem? (i := 48) rfl)) (by decide +kernel), (fun _ h => absurd h List.not_mem_nil)⟩)⟩)⟩)⟩)⟩)⟩)⟩)
def xD_28 : List Value := [.null, .int 0, .int 0, .int 0, .int 0, .int 0, .null]
theorem xDo_28 {ad : Nat → Nat} : ∀ j, j < 7 → defaultValue (xY_28 j) = vp_V (xD_28.map (x_v ad)) j := x_dv 7 (by decide +kernel)
def xT_29 : u_T := fun k => match k with
  | 0 => ("RelayHallModel$Queue", "name", "[B", false)
  | 1 => ("RelayHallModel$Queue", "durable", "Z", false)
  | 2 => ("RelayHallModel$Queue", "exclusive", "Z", false)
  | 3 => ("RelayHallModel$Queue", "auto", "Z", false)
  | 4 => ("RelayHallModel$Queue", "there", "Z", false)
  | 5 => ("RelayHallModel$Queue", "owner", "LRelayHallModel$Connection;", false)
  | 6 => ("RelayHallModel$Queue", "max", "I", false)
  | 7 => ("RelayHallModel$Queue", "ttl", "I", false)
  | 8 => ("RelayHallModel$Queue", "pri", "I", false)
  | 9 => ("RelayHallModel$Queue", "dlx", "[B", false)
  | 10 => ("RelayHallModel$Queue", "dlk", "[B", false)
  | 11 => ("RelayHallModel$Queue", "entries", "[LRelayHallModel$Entry;", true)
  | 12 => ("RelayHallModel$Queue", "long1", "I", false)
  | _ => ("RelayHallModel$Queue", "last", "LRelayHallModel$Consumer;", false)
def xY_29 : Nat → FieldType := fun k => match k with
  | 0 => (.array .byte)
  | 1 => .boolean
  | 2 => .boolean
  | 3 => .boolean
  | 4 => .boolean
  | 5 => (.object "RelayHallModel$Connection")
  | 6 => .int
  | 7 => .int
  | 8 => .int
  | 9 => (.array .byte)
  | 10 => (.array .byte)
  | 11 => (.array (.object "RelayHallModel$Entry"))
  | 12 => .int
  | _ => (.object "RelayHallModel$Consumer")
theorem xN_29 : ∀ a, a < 14 → ∀ b, b < 14 → a ≠ b → (xT_29 a).2.1 ≠ (xT_29 b).2.1 := by decide +kernel
theorem xYo_29 : ∀ k, k < 14 → parseFieldDescriptor (xT_29 k).2.2.1 = some (xY_29 k) := by decide +kernel
theorem xws_29 : ∀ w ∈ u_ws "RelayHallModel$Queue" xT_29 14, w ∈ lw_G := by
  have e : u_ws "RelayHallModel$Queue" xT_29 14 = [Cond.lays "RelayHallModel$Queue" "RelayHallModel$Queue" "name" "[B", Cond.lays "RelayHallModel$Queue" "RelayHallModel$Queue" "durable" "Z", Cond.lays "RelayHallModel$Queue" "RelayHallModel$Queue" "exclusive" "Z", Cond.lays "RelayHallModel$Queue" "RelayHallModel$Queue" "auto" "Z", Cond.lays "RelayHallModel$Queue" "RelayHallModel$Queue" "there" "Z", Cond.lays "RelayHallModel$Queue" "RelayHallModel$Queue" "owner" "LRelayHallModel$Connection;", Cond.lays "RelayHallModel$Queue" "RelayHallModel$Queue" "max" "I", Cond.lays "RelayHallModel$Queue" "RelayHallModel$Queue" "ttl" "I", Cond.lays "RelayHallModel$Queue" "RelayHallModel$Queue" "pri" "I", Cond.lays "RelayHallModel$Queue" "RelayHallModel$Queue" "dlx" "[B", Cond.lays "RelayHallModel$Queue" "RelayHallModel$Queue" "dlk" "[B", Cond.laysFinal "RelayHallModel$Queue" "RelayHallModel$Queue" "entries" "[LRelayHallModel$Entry;", Cond.lays "RelayHallModel$Queue" "RelayHallModel$Queue" "long1" "I", Cond.lays "RelayHallModel$Queue" "RelayHallModel$Queue" "last" "LRelayHallModel$Consumer;"] := by decide +kernel
  rw [e]
  exact (List.forall_mem_cons.mpr ⟨x_gw (inT_13 _ (List.mem_of_getElem? (i := 96) rfl)) (by decide +kernel), (List.forall_mem_cons.mpr ⟨x_gw (inT_13 _ (List.mem_of_getElem? (i := 98) rfl)) (by decide +kernel), (List.forall_mem_cons.mpr ⟨x_gw (inT_13 _ (List.mem_of_getElem? (i := 100) rfl)) (by decide +kernel), (List.forall_mem_cons.mpr ⟨x_gw (inT_13 _ (List.mem_of_getElem? (i := 102) rfl)) (by decide +kernel), (List.forall_mem_cons.mpr ⟨x_gw (inT_13 _ (List.mem_of_getElem? (i := 104) rfl)) (by decide +kernel), (List.forall_mem_cons.mpr ⟨x_gw (inT_13 _ (List.mem_of_getElem? (i := 106) rfl)) (by decide +kernel), (List.forall_mem_cons.mpr ⟨x_gw (inT_13 _ (List.mem_of_getElem? (i := 108) rfl)) (by decide +kernel), (List.forall_mem_cons.mpr ⟨x_gw (inT_13 _ (List.mem_of_getElem? (i := 110) rfl)) (by decide +kernel), (List.forall_mem_cons.mpr ⟨x_gw (inT_13 _ (List.mem_of_getElem? (i := 112) rfl)) (by decide +kernel), (List.forall_mem_cons.mpr ⟨x_gw (inT_13 _ (List.mem_of_getElem? (i := 114) rfl)) (by decide +kernel), (List.forall_mem_cons.mpr ⟨x_gw (inT_13 _ (List.mem_of_getElem? (i := 116) rfl)) (by decide +kernel), (List.forall_mem_cons.mpr ⟨x_gw (inT_13 _ (List.mem_of_getElem? (i := 118) rfl)) (by decide +kernel), (List.forall_mem_cons.mpr ⟨x_gw (inT_13 _ (List.mem_of_getElem? (i := 120) rfl)) (by decide +kernel), (List.forall_mem_cons.mpr ⟨x_gw (inT_13 _ (List.mem_of_getElem? (i := 122) rfl)) (by decide +kernel), (fun _ h => absurd h List.not_mem_nil)⟩)⟩)⟩)⟩)⟩)⟩)⟩)⟩)⟩)⟩)⟩)⟩)⟩)⟩)
def xD_29 : List Value := [.null, .int 0, .int 0, .int 0, .int 0, .null, .int 0, .int 0, .int 0, .null, .null, .null, .int 0, .null]
theorem xDo_29 {ad : Nat → Nat} : ∀ j, j < 14 → defaultValue (xY_29 j) = vp_V (xD_29.map (x_v ad)) j := x_dv 14 (by decide +kernel)
def xT_30 : u_T := fun k => match k with
  | 0 => ("RelayHallModel$Binding", "queue", "LRelayHallModel$Queue;", false)
  | 1 => ("RelayHallModel$Binding", "exchange", "LRelayHallModel$Exchange;", false)
  | 2 => ("RelayHallModel$Binding", "key", "[B", false)
  | _ => ("RelayHallModel$Binding", "table", "LRelayHallModel$Table;", false)
def xY_30 : Nat → FieldType := fun k => match k with
  | 0 => (.object "RelayHallModel$Queue")
  | 1 => (.object "RelayHallModel$Exchange")
  | 2 => (.array .byte)
  | _ => (.object "RelayHallModel$Table")
theorem xN_30 : ∀ a, a < 4 → ∀ b, b < 4 → a ≠ b → (xT_30 a).2.1 ≠ (xT_30 b).2.1 := by decide +kernel
theorem xYo_30 : ∀ k, k < 4 → parseFieldDescriptor (xT_30 k).2.2.1 = some (xY_30 k) := by decide +kernel
theorem xws_30 : ∀ w ∈ u_ws "RelayHallModel$Binding" xT_30 4, w ∈ lw_G := by
  have e : u_ws "RelayHallModel$Binding" xT_30 4 = [Cond.lays "RelayHallModel$Binding" "RelayHallModel$Binding" "queue" "LRelayHallModel$Queue;", Cond.lays "RelayHallModel$Binding" "RelayHallModel$Binding" "exchange" "LRelayHallModel$Exchange;", Cond.lays "RelayHallModel$Binding" "RelayHallModel$Binding" "key" "[B", Cond.lays "RelayHallModel$Binding" "RelayHallModel$Binding" "table" "LRelayHallModel$Table;"] := by decide +kernel
  rw [e]
  exact (List.forall_mem_cons.mpr ⟨x_gw (inT_13 _ (List.mem_of_getElem? (i := 179) rfl)) (by decide +kernel), (List.forall_mem_cons.mpr ⟨x_gw (inT_13 _ (List.mem_of_getElem? (i := 181) rfl)) (by decide +kernel), (List.forall_mem_cons.mpr ⟨x_gw (inT_13 _ (List.mem_of_getElem? (i := 183) rfl)) (by decide +kernel), (List.forall_mem_cons.mpr ⟨x_gw (inT_13 _ (List.mem_of_getElem? (i := 185) rfl)) (by decide +kernel), (fun _ h => absurd h List.not_mem_nil)⟩)⟩)⟩)⟩)
def xD_30 : List Value := [.null, .null, .null, .null]
theorem xDo_30 {ad : Nat → Nat} : ∀ j, j < 4 → defaultValue (xY_30 j) = vp_V (xD_30.map (x_v ad)) j := x_dv 4 (by decide +kernel)
def xT_31 : u_T := fun k => match k with
  | 0 => ("RelayHallModel$Consumer", "tag", "[B", false)
  | 1 => ("RelayHallModel$Consumer", "queue", "LRelayHallModel$Queue;", false)
  | 2 => ("RelayHallModel$Consumer", "channel", "LRelayHallModel$Channel;", false)
  | 3 => ("RelayHallModel$Consumer", "free", "Z", false)
  | 4 => ("RelayHallModel$Consumer", "exclusive", "Z", false)
  | _ => ("RelayHallModel$Consumer", "limit", "I", false)
def xY_31 : Nat → FieldType := fun k => match k with
  | 0 => (.array .byte)
  | 1 => (.object "RelayHallModel$Queue")
  | 2 => (.object "RelayHallModel$Channel")
  | 3 => .boolean
  | 4 => .boolean
  | _ => .int
theorem xN_31 : ∀ a, a < 6 → ∀ b, b < 6 → a ≠ b → (xT_31 a).2.1 ≠ (xT_31 b).2.1 := by decide +kernel
theorem xYo_31 : ∀ k, k < 6 → parseFieldDescriptor (xT_31 k).2.2.1 = some (xY_31 k) := by decide +kernel
theorem xws_31 : ∀ w ∈ u_ws "RelayHallModel$Consumer" xT_31 6, w ∈ lw_G := by
  have e : u_ws "RelayHallModel$Consumer" xT_31 6 = [Cond.lays "RelayHallModel$Consumer" "RelayHallModel$Consumer" "tag" "[B", Cond.lays "RelayHallModel$Consumer" "RelayHallModel$Consumer" "queue" "LRelayHallModel$Queue;", Cond.lays "RelayHallModel$Consumer" "RelayHallModel$Consumer" "channel" "LRelayHallModel$Channel;", Cond.lays "RelayHallModel$Consumer" "RelayHallModel$Consumer" "free" "Z", Cond.lays "RelayHallModel$Consumer" "RelayHallModel$Consumer" "exclusive" "Z", Cond.lays "RelayHallModel$Consumer" "RelayHallModel$Consumer" "limit" "I"] := by decide +kernel
  rw [e]
  exact (List.forall_mem_cons.mpr ⟨x_gw (inT_13 _ (List.mem_of_getElem? (i := 232) rfl)) (by decide +kernel), (List.forall_mem_cons.mpr ⟨x_gw (inT_13 _ (List.mem_of_getElem? (i := 234) rfl)) (by decide +kernel), (List.forall_mem_cons.mpr ⟨x_gw (inT_13 _ (List.mem_of_getElem? (i := 236) rfl)) (by decide +kernel), (List.forall_mem_cons.mpr ⟨x_gw (inT_13 _ (List.mem_of_getElem? (i := 238) rfl)) (by decide +kernel), (List.forall_mem_cons.mpr ⟨x_gw (inT_14 _ (List.mem_of_getElem? (i := 0) rfl)) (by decide +kernel), (List.forall_mem_cons.mpr ⟨x_gw (inT_14 _ (List.mem_of_getElem? (i := 2) rfl)) (by decide +kernel), (fun _ h => absurd h List.not_mem_nil)⟩)⟩)⟩)⟩)⟩)⟩)
def xD_31 : List Value := [.null, .null, .null, .int 0, .int 0, .int 0]
theorem xDo_31 {ad : Nat → Nat} : ∀ j, j < 6 → defaultValue (xY_31 j) = vp_V (xD_31.map (x_v ad)) j := x_dv 6 (by decide +kernel)
def xT_32 : u_T := fun k => match k with
  | 0 => ("RelayHallModel$Content", "exchange", "[B", false)
  | 1 => ("RelayHallModel$Content", "key", "[B", false)
  | 2 => ("RelayHallModel$Content", "mandatory", "Z", false)
  | 3 => ("RelayHallModel$Content", "persistent", "Z", false)
  | 4 => ("RelayHallModel$Content", "priority", "I", false)
  | 5 => ("RelayHallModel$Content", "expiration", "J", false)
  | 6 => ("RelayHallModel$Content", "headers", "LRelayHallModel$Table;", false)
  | 7 => ("RelayHallModel$Content", "body", "[B", false)
  | _ => ("RelayHallModel$Content", "got", "I", false)
def xY_32 : Nat → FieldType := fun k => match k with
  | 0 => (.array .byte)
  | 1 => (.array .byte)
  | 2 => .boolean
  | 3 => .boolean
  | 4 => .int
  | 5 => .long
  | 6 => (.object "RelayHallModel$Table")
  | 7 => (.array .byte)
  | _ => .int
theorem xN_32 : ∀ a, a < 9 → ∀ b, b < 9 → a ≠ b → (xT_32 a).2.1 ≠ (xT_32 b).2.1 := by decide +kernel
theorem xYo_32 : ∀ k, k < 9 → parseFieldDescriptor (xT_32 k).2.2.1 = some (xY_32 k) := by decide +kernel
theorem xws_32 : ∀ w ∈ u_ws "RelayHallModel$Content" xT_32 9, w ∈ lw_G := by
  have e : u_ws "RelayHallModel$Content" xT_32 9 = [Cond.lays "RelayHallModel$Content" "RelayHallModel$Content" "exchange" "[B", Cond.lays "RelayHallModel$Content" "RelayHallModel$Content" "key" "[B", Cond.lays "RelayHallModel$Content" "RelayHallModel$Content" "mandatory" "Z", Cond.lays "RelayHallModel$Content" "RelayHallModel$Content" "persistent" "Z", Cond.lays "RelayHallModel$Content" "RelayHallModel$Content" "priority" "I", Cond.lays "RelayHallModel$Content" "RelayHallModel$Content" "expiration" "J", Cond.lays "RelayHallModel$Content" "RelayHallModel$Content" "headers" "LRelayHallModel$Table;", Cond.lays "RelayHallModel$Content" "RelayHallModel$Content" "body" "[B", Cond.lays "RelayHallModel$Content" "RelayHallModel$Content" "got" "I"] := by decide +kernel
  rw [e]
  exact (List.forall_mem_cons.mpr ⟨x_gw (inT_14 _ (List.mem_of_getElem? (i := 34) rfl)) (by decide +kernel), (List.forall_mem_cons.mpr ⟨x_gw (inT_14 _ (List.mem_of_getElem? (i := 36) rfl)) (by decide +kernel), (List.forall_mem_cons.mpr ⟨x_gw (inT_14 _ (List.mem_of_getElem? (i := 38) rfl)) (by decide +kernel), (List.forall_mem_cons.mpr ⟨x_gw (inT_14 _ (List.mem_of_getElem? (i := 40) rfl)) (by decide +kernel), (List.forall_mem_cons.mpr ⟨x_gw (inT_14 _ (List.mem_of_getElem? (i := 42) rfl)) (by decide +kernel), (List.forall_mem_cons.mpr ⟨x_gw (inT_14 _ (List.mem_of_getElem? (i := 44) rfl)) (by decide +kernel), (List.forall_mem_cons.mpr ⟨x_gw (inT_14 _ (List.mem_of_getElem? (i := 46) rfl)) (by decide +kernel), (List.forall_mem_cons.mpr ⟨x_gw (inT_14 _ (List.mem_of_getElem? (i := 48) rfl)) (by decide +kernel), (List.forall_mem_cons.mpr ⟨x_gw (inT_14 _ (List.mem_of_getElem? (i := 50) rfl)) (by decide +kernel), (fun _ h => absurd h List.not_mem_nil)⟩)⟩)⟩)⟩)⟩)⟩)⟩)⟩)⟩)
def xD_32 : List Value := [.null, .null, .int 0, .int 0, .int 0, .long 0, .null, .null, .int 0]
theorem xDo_32 {ad : Nat → Nat} : ∀ j, j < 9 → defaultValue (xY_32 j) = vp_V (xD_32.map (x_v ad)) j := x_dv 9 (by decide +kernel)
def xT_33 : u_T := fun k => match k with
  | 0 => ("RelayHallModel$Kept", "content", "LRelayHallModel$Content;", false)
  | 1 => ("RelayHallModel$Kept", "what", "I", false)
  | _ => ("RelayHallModel$Kept", "those", "[LRelayHallModel$Sent;", false)
def xY_33 : Nat → FieldType := fun k => match k with
  | 0 => (.object "RelayHallModel$Content")
  | 1 => .int
  | _ => (.array (.object "RelayHallModel$Sent"))
theorem xN_33 : ∀ a, a < 3 → ∀ b, b < 3 → a ≠ b → (xT_33 a).2.1 ≠ (xT_33 b).2.1 := by decide +kernel
theorem xYo_33 : ∀ k, k < 3 → parseFieldDescriptor (xT_33 k).2.2.1 = some (xY_33 k) := by decide +kernel
theorem xws_33 : ∀ w ∈ u_ws "RelayHallModel$Kept" xT_33 3, w ∈ lw_G := by
  have e : u_ws "RelayHallModel$Kept" xT_33 3 = [Cond.lays "RelayHallModel$Kept" "RelayHallModel$Kept" "content" "LRelayHallModel$Content;", Cond.lays "RelayHallModel$Kept" "RelayHallModel$Kept" "what" "I", Cond.lays "RelayHallModel$Kept" "RelayHallModel$Kept" "those" "[LRelayHallModel$Sent;"] := by decide +kernel
  rw [e]
  exact (List.forall_mem_cons.mpr ⟨x_gw (inT_14 _ (List.mem_of_getElem? (i := 97) rfl)) (by decide +kernel), (List.forall_mem_cons.mpr ⟨x_gw (inT_14 _ (List.mem_of_getElem? (i := 99) rfl)) (by decide +kernel), (List.forall_mem_cons.mpr ⟨x_gw (inT_14 _ (List.mem_of_getElem? (i := 101) rfl)) (by decide +kernel), (fun _ h => absurd h List.not_mem_nil)⟩)⟩)⟩)
def xD_33 : List Value := [.null, .int 0, .null]
theorem xDo_33 {ad : Nat → Nat} : ∀ j, j < 3 → defaultValue (xY_33 j) = vp_V (xD_33.map (x_v ad)) j := x_dv 3 (by decide +kernel)
end XW
