section XTr
/-- tables with one more kind behind -/
def tr_v (v : Vm) (K : Class) : Vm := { v with classes := v.classes.push K }
/-- all that stands above c is in the table, within n steps -/
def tr_deep (v : Vm) : Nat → ClassId → Bool
  | 0, _ => false
  | n + 1, c => match v.classes[c]? with
    | none => false
    | some k => (match k.super with | none => true | some p => tr_deep v n p) && k.interfaces.toList.all (fun p => tr_deep v n p)
theorem tr_get {v : Vm} {n : Nat} {c : ClassId} (h : tr_deep v (n + 1) c = true) : ∃ k, v.classes[c]? = some k ∧ (∀ p, k.super = some p → tr_deep v n p = true) ∧ (∀ p ∈ k.interfaces.toList, tr_deep v n p = true) := by
  simp only [tr_deep] at h
  cases hk : v.classes[c]? with
  | none => rw [hk] at h; exact absurd h Bool.false_ne_true
  | some k =>
    rw [hk] at h
    simp only [Bool.and_eq_true, List.all_eq_true] at h
    refine ⟨k, rfl, ?_, h.2⟩
    intro p hp
    have h1 := h.1
    rw [hp] at h1
    exact h1
theorem tr_lt {v : Vm} {c : ClassId} {k : Class} (h : v.classes[c]? = some k) : c < v.classes.size := (Array.getElem?_eq_some_iff.mp h).1
theorem tr_ex {v : Vm} {c : ClassId} (h : c < v.classes.size) : ∃ k, v.classes[c]? = some k := ⟨_, Array.getElem?_eq_getElem h⟩
theorem tr_size {v : Vm} {K : Class} : (tr_v v K).classes.size = v.classes.size + 1 := Array.size_push ..
theorem tr_cl {v : Vm} {K : Class} {c : ClassId} (h : c < v.classes.size) : (tr_v v K).classes[c]? = v.classes[c]? := by
  show (v.classes.push K)[c]? = _
  rw [Array.getElem?_push, if_neg (Nat.ne_of_lt h)]
theorem tr_cs {v : Vm} {K : Class} {c : ClassId} {k : Class} (h : v.classes[c]? = some k) : (tr_v v K).classes[c]? = some k := by rw [tr_cl (tr_lt h)]; exact h
theorem tr_foldl {α β : Type} {f g : α → β → α} : ∀ (l : List β), (∀ b ∈ l, ∀ a, f a b = g a b) → ∀ a, l.foldl f a = l.foldl g a
  | [], _, _ => rfl
  | b :: l, h, a => by
    show l.foldl f (f a b) = l.foldl g (g a b)
    rw [h b List.mem_cons_self a]
    exact tr_foldl l (fun c hc => h c (List.mem_cons_of_mem _ hc)) _
theorem tr_afold {α β : Type} {f g : α → β → α} (xs : Array β) (h : ∀ b ∈ xs.toList, ∀ a, f a b = g a b) (a : α) : xs.foldl f a = xs.foldl g a := by
  rw [← Array.foldl_toList, ← Array.foldl_toList]
  exact tr_foldl _ h a
theorem tr_supA {v : Vm} {K : Class} : ∀ (n : Nat) (c : ClassId), tr_deep v n c = true → ∀ m m', n ≤ m → n ≤ m' → (tr_v v K).superclassesAux m' c = v.superclassesAux m c := by
  intro n
  induction n with
  | zero => intro c h; exact absurd h Bool.false_ne_true
  | succ n ih =>
    intro c h m m' hm hm'
    obtain ⟨k, hk, hs, _⟩ := tr_get h
    obtain ⟨a, rfl⟩ : ∃ a, m = a + 1 := ⟨m - 1, by omega⟩
    obtain ⟨b, rfl⟩ : ∃ b, m' = b + 1 := ⟨m' - 1, by omega⟩
    simp only [Vm.superclassesAux, hk, tr_cs hk, Option.bind_some]
    cases hp : k.super with
    | none => rfl
    | some p => exact congrArg (p :: ·) (ih p (hs p hp) a b (by omega) (by omega))
theorem tr_subA {v : Vm} {K : Class} {t : ClassId} : ∀ (n : Nat) (c : ClassId), tr_deep v n c = true → ∀ m m', n ≤ m → n ≤ m' → (tr_v v K).isSubclassAux m' c t = v.isSubclassAux m c t := by
  intro n
  induction n with
  | zero => intro c h; exact absurd h Bool.false_ne_true
  | succ n ih =>
    intro c h m m' hm hm'
    obtain ⟨k, hk, hs, _⟩ := tr_get h
    obtain ⟨a, rfl⟩ : ∃ a, m = a + 1 := ⟨m - 1, by omega⟩
    obtain ⟨b, rfl⟩ : ∃ b, m' = b + 1 := ⟨m' - 1, by omega⟩
    simp only [Vm.isSubclassAux, hk, tr_cs hk]
    cases hp : k.super with
    | none => rfl
    | some p => exact congrArg (c == t || ·) (ih p (hs p hp) a b (by omega) (by omega))
theorem tr_siA {v : Vm} {K : Class} : ∀ (n : Nat) (c : ClassId), tr_deep v n c = true → ∀ m m', n ≤ m → n ≤ m' → ∀ acc, (tr_v v K).superinterfacesAux m' acc c = v.superinterfacesAux m acc c := by
  intro n
  induction n with
  | zero => intro c h; exact absurd h Bool.false_ne_true
  | succ n ih =>
    intro c h m m' hm hm' acc
    obtain ⟨k, hk, hs, hi⟩ := tr_get h
    obtain ⟨a, rfl⟩ : ∃ a, m = a + 1 := ⟨m - 1, by omega⟩
    obtain ⟨b, rfl⟩ : ∃ b, m' = b + 1 := ⟨m' - 1, by omega⟩
    obtain ⟨f, w⟩ := acc
    have hf : ∀ a0, k.interfaces.foldl ((tr_v v K).superinterfacesAux b) a0 = k.interfaces.foldl (v.superinterfacesAux a) a0 :=
      fun a0 => tr_afold _ (fun p hp acc => ih p (hi p hp) a b (by omega) (by omega) acc) a0
    simp only [Vm.superinterfacesAux, hk, tr_cs hk, hf]
    split
    · rfl
    · cases hp : k.super with
      | none => rfl
      | some p => exact ih p (hs p hp) a b (by omega) (by omega) _
def tr_lk (L : List ClassId → ClassId → Option (ClassId × Nat) × List ClassId) (name : String) (type : FieldType) (k : Class) (c : ClassId) (w : List ClassId) : Option (ClassId × Nat) × List ClassId :=
  if w.contains c then (none, w) else
  match k.findField name type with
  | some i => (some (c, i), w)
  | none =>
    match k.interfaces.foldl (fun x i => if x.1.isSome then x else L x.2 i) ((none, c :: w) : Option (ClassId × Nat) × List ClassId), k.super with
    | (none, walked), some p => L walked p
    | r, _ => r
theorem tr_lk_eq {v : Vm} {name : String} {type : FieldType} {a : Nat} {w : List ClassId} {c : ClassId} {k : Class} (hk : v.classes[c]? = some k) :
    lookupFieldAux v name type (a + 1) w c = tr_lk (lookupFieldAux v name type a) name type k c w := by
  simp only [lookupFieldAux, hk]
  rfl
theorem tr_lk_congr {L L' : List ClassId → ClassId → Option (ClassId × Nat) × List ClassId} {name : String} {type : FieldType} {k : Class} {c : ClassId} {w : List ClassId}
    (hi : ∀ p ∈ k.interfaces.toList, ∀ w, L w p = L' w p) (hs : ∀ p, k.super = some p → ∀ w, L w p = L' w p) : tr_lk L name type k c w = tr_lk L' name type k c w := by
  unfold tr_lk
  have hf : ∀ a0 : Option (ClassId × Nat) × List ClassId, k.interfaces.foldl (fun x i => if x.1.isSome then x else L x.2 i) a0 = k.interfaces.foldl (fun x i => if x.1.isSome then x else L' x.2 i) a0 :=
    fun a0 => tr_afold _ (fun p hp acc => by rw [hi p hp]) a0
  rw [hf]
  split
  · rfl
  · split
    · rfl
    · have key : ∀ (A : Option (ClassId × Nat) × List ClassId), (match A, k.super with | (none, walked), some p => L walked p | r, _ => r) = (match A, k.super with | (none, walked), some p => L' walked p | r, _ => r) := by
        rintro ⟨_ | q, w⟩
        · cases hp : k.super with
          | none => rfl
          | some p => exact hs p hp w
        · cases k.super <;> rfl
      exact key _
theorem tr_lkA {v : Vm} {K : Class} {name : String} {type : FieldType} : ∀ (n : Nat) (c : ClassId), tr_deep v n c = true → ∀ m m', n ≤ m → n ≤ m' → ∀ w, lookupFieldAux (tr_v v K) name type m' w c = lookupFieldAux v name type m w c := by
  intro n
  induction n with
  | zero => intro c h; exact absurd h Bool.false_ne_true
  | succ n ih =>
    intro c h m m' hm hm' w
    obtain ⟨k, hk, hs, hi⟩ := tr_get h
    obtain ⟨a, rfl⟩ : ∃ a, m = a + 1 := ⟨m - 1, by omega⟩
    obtain ⟨b, rfl⟩ : ∃ b, m' = b + 1 := ⟨m' - 1, by omega⟩
    rw [tr_lk_eq hk, tr_lk_eq (tr_cs hk)]
    exact tr_lk_congr (fun p hp w => ih p (hi p hp) a b (by omega) (by omega) w) (fun p hp w => ih p (hs p hp) a b (by omega) (by omega) w)
theorem tr_upA {v : Vm} {K : Class} {name desc : String} : ∀ (n : Nat) (c : ClassId), tr_deep v n c = true → ∀ m m', n ≤ m → n ≤ m' → lookupInSuperclasses (tr_v v K) name desc m' c = lookupInSuperclasses v name desc m c := by
  intro n
  induction n with
  | zero => intro c h; exact absurd h Bool.false_ne_true
  | succ n ih =>
    intro c h m m' hm hm'
    obtain ⟨k, hk, hs, _⟩ := tr_get h
    obtain ⟨a, rfl⟩ : ∃ a, m = a + 1 := ⟨m - 1, by omega⟩
    obtain ⟨b, rfl⟩ : ∃ b, m' = b + 1 := ⟨m' - 1, by omega⟩
    simp only [lookupInSuperclasses, hk, tr_cs hk, Option.bind_eq_bind, Option.bind_some]
    cases k.findMethod name desc with
    | some i => rfl
    | none =>
      cases hp : k.super with
      | none => rfl
      | some p => exact ih p (hs p hp) a b (by omega) (by omega)
theorem tr_mgA {v : Vm} {K : Class} : ∀ (n : Nat) (c : ClassId), tr_deep v n c = true → ∀ m m', n ≤ m → n ≤ m' → (tr_v v K).belowMagic m' (some c) = v.belowMagic m (some c) := by
  intro n
  induction n with
  | zero => intro c h; exact absurd h Bool.false_ne_true
  | succ n ih =>
    intro c h m m' hm hm'
    obtain ⟨k, hk, hs, _⟩ := tr_get h
    obtain ⟨a, rfl⟩ : ∃ a, m = a + 1 := ⟨m - 1, by omega⟩
    obtain ⟨b, rfl⟩ : ∃ b, m' = b + 1 := ⟨m' - 1, by omega⟩
    simp only [Vm.belowMagic, hk, tr_cs hk, Option.any_some]
    cases hp : k.super with
    | none => cases a <;> cases b <;> rfl
    | some p => rw [ih p (hs p hp) a b (by omega) (by omega)]
def tr_ok (v : Vm) : Prop := (∀ i, i < v.classes.size → tr_deep v v.classes.size i = true) ∧ ∀ (i : ClassId) (k : Class) (c : ClassId) (t : FieldType), v.classes[i]? = some k → k.kind = Kind.array c t → c < v.classes.size
theorem tr_up_lt {v : Vm} (hd : tr_ok v) {c p : ClassId} {k : Class} (hk : v.classes[c]? = some k) (hp : k.super = some p) : p < v.classes.size := by
  have h := hd.1 c (tr_lt hk)
  obtain ⟨n, hn⟩ : ∃ n, v.classes.size = n + 1 := ⟨v.classes.size - 1, (Nat.sub_add_cancel (Nat.lt_of_le_of_lt (Nat.zero_le _) (tr_lt hk))).symm⟩
  rw [hn] at h
  obtain ⟨k', hk', hs, _⟩ := tr_get h
  rw [hk] at hk'
  cases hk'
  have h2 := hs p hp
  cases n with
  | zero => exact absurd h2 Bool.false_ne_true
  | succ n =>
    obtain ⟨k2, hk2, _⟩ := tr_get h2
    exact tr_lt hk2
theorem tr_sub {v : Vm} {K : Class} (hd : tr_ok v) {c : ClassId} (hc : c < v.classes.size) (t : ClassId) : (tr_v v K).isSubclass c t = v.isSubclass c t :=
  tr_subA _ c (hd.1 c hc) _ _ (by omega) (by rw [tr_size]; omega)
theorem tr_si {v : Vm} {K : Class} (hd : tr_ok v) {c : ClassId} (hc : c < v.classes.size) : (tr_v v K).superinterfaces c = v.superinterfaces c :=
  congrArg Prod.fst (tr_siA _ c (hd.1 c hc) _ _ (by omega) (by rw [tr_size]; omega) _)
theorem tr_lookF {v : Vm} {K : Class} (hd : tr_ok v) {c : ClassId} (hc : c < v.classes.size) (name : String) (type : FieldType) :
    lookupField (tr_v v K) name type ((tr_v v K).classes.size + 1) c = lookupField v name type (v.classes.size + 1) c :=
  congrArg Prod.fst (tr_lkA _ c (hd.1 c hc) _ _ (by omega) (by rw [tr_size]; omega) _)
theorem tr_prim {v : Vm} {K : Class} {c : ClassId} (hc : c < v.classes.size) : (tr_v v K).isPrimitive c = v.isPrimitive c := by
  unfold Vm.isPrimitive
  rw [tr_cl hc]
theorem tr_asgA {v : Vm} {K : Class} (hd : tr_ok v) : ∀ (f : Nat) (s t : ClassId), s < v.classes.size → t < v.classes.size → (tr_v v K).assignableAux f s t = v.assignableAux f s t := by
  intro f
  induction f with
  | zero => intros; rfl
  | succ f ih =>
    intro s t hs ht
    obtain ⟨ks, hks⟩ := tr_ex hs
    obtain ⟨kt, hkt⟩ := tr_ex ht
    simp only [Vm.assignableAux, hks, hkt, tr_cs hks, tr_cs hkt, tr_si hd hs, tr_sub hd hs t]
    cases h1 : ks.kind <;> cases h2 : kt.kind <;> first | rfl | skip
    rename_i sc ty tc ty2
    have a1 := hd.2 _ _ _ _ hks h1
    have a2 := hd.2 _ _ _ _ hkt h2
    show (s == t || (if (tr_v v K).isPrimitive sc || (tr_v v K).isPrimitive tc then sc == tc else (tr_v v K).assignableAux f sc tc)) = (s == t || (if v.isPrimitive sc || v.isPrimitive tc then sc == tc else v.assignableAux f sc tc))
    rw [tr_prim a1, tr_prim a2, ih sc tc a1 a2]
theorem tr_asg {v : Vm} {K : Class} (hd : tr_ok v) {s t : ClassId} (hs : s < v.classes.size) (ht : t < v.classes.size) : (tr_v v K).assignable s t = v.assignable s t := tr_asgA hd 256 s t hs ht
theorem tr_decl {v : Vm} {K : Class} (hd : tr_ok v) {slot : Nat} : ∀ (r : Nat) (c : ClassId), c < v.classes.size → Jmm.declares? (tr_v v K) slot r c = Jmm.declares? v slot r c := by
  intro r
  induction r with
  | zero => intros; rfl
  | succ r ih =>
    intro c hc
    obtain ⟨k, hk⟩ := tr_ex hc
    simp only [Jmm.declares?, hk, tr_cs hk, Option.bind_eq_bind, Option.bind_some]
    cases k.fields.find? (fun f => !f.isStatic && f.slot == slot) with
    | some f => rfl
    | none =>
      cases hp : k.super with
      | none => rfl
      | some p => exact ih p (tr_up_lt hd hk hp)
theorem tr_kept {v : Vm} {K : Class} {c : ClassId} (hc : c < v.classes.size) : (tr_v v K).superinterfacesAsKept c = v.superinterfacesAsKept c := by
  have h : (tr_v v K).interfaceListsBefore (c + 1) = v.interfaceListsBefore (c + 1) := by
    unfold Vm.interfaceListsBefore
    refine tr_foldl _ (fun b hb a => ?_) _
    have hb' : b < v.classes.size := Nat.lt_of_lt_of_le (List.mem_range.mp hb) hc
    simp only [tr_cl hb']
  unfold Vm.superinterfacesAsKept
  rw [h]
theorem tr_meth {v : Vm} {K : Class} (hK : K.methods = #[]) (m : MethodId) : (tr_v v K).method? m = v.method? m := by
  unfold Vm.method?
  by_cases h : m.cls < v.classes.size
  · rw [tr_cl h]
  · have h0 : v.classes[m.cls]? = none := Array.getElem?_eq_none (Nat.le_of_not_lt h)
    show ((v.classes.push K)[m.cls]?).bind _ = _
    rw [Array.getElem?_push, h0]
    by_cases h2 : m.cls = v.classes.size
    · rw [if_pos h2]; simp [hK]
    · rw [if_neg h2]; rfl
theorem tr_sim {v : Vm} {K : Class} (hd : tr_ok v) (hK : K.methods = #[]) {c : ClassId} (hc : c < v.classes.size) (name desc : String) :
    superinterfaceMethods (tr_v v K) c name desc = superinterfaceMethods v c name desc := by
  unfold superinterfaceMethods
  rw [tr_si hd hc]
  congr 1
  funext i
  by_cases h : i < v.classes.size
  · simp only [tr_cl h, tr_meth hK]
  · have h0 : v.classes[i]? = none := Array.getElem?_eq_none (Nat.le_of_not_lt h)
    have h1 : (tr_v v K).classes[i]? = if i = v.classes.size then some K else v.classes[i]? := by
      show (v.classes.push K)[i]? = _
      rw [Array.getElem?_push]
    rw [h1, h0]
    by_cases h2 : i = v.classes.size
    · rw [if_pos h2]; simp [Class.findMethod, hK]
    · rw [if_neg h2]; rfl
theorem tr_sim_lt {v : Vm} {c : ClassId} {name desc : String} {o : MethodId} (ho : o ∈ superinterfaceMethods v c name desc) : o.cls < v.classes.size := by
  unfold superinterfaceMethods at ho
  obtain ⟨i, _, hi⟩ := List.mem_filterMap.mp ho
  cases hk : v.classes[i]? with
  | none => rw [hk] at hi; simp at hi
  | some k =>
    simp only [hk, Option.bind_eq_bind, Option.bind_some, Option.bind_eq_some_iff] at hi
    obtain ⟨idx, _, mm, _, hif⟩ := hi
    split at hif
    · cases hif
    · cases hif; exact tr_lt hk
theorem tr_max {v : Vm} {K : Class} (hd : tr_ok v) (hK : K.methods = #[]) {c : ClassId} (hc : c < v.classes.size) (name desc : String) :
    maximallySpecific (tr_v v K) c name desc = maximallySpecific v c name desc := by
  unfold maximallySpecific
  simp only [tr_sim hd hK hc]
  refine List.filter_congr (fun m hm => congrArg (!·) ?_)
  rw [Bool.eq_iff_iff, List.any_eq_true, List.any_eq_true]
  constructor
  · rintro ⟨o, ho, h⟩
    exact ⟨o, ho, by rw [tr_si hd (tr_sim_lt ho)] at h; exact h⟩
  · rintro ⟨o, ho, h⟩
    exact ⟨o, ho, by rw [tr_si hd (tr_sim_lt ho)]; exact h⟩
theorem tr_lookup {v : Vm} {K : Class} (hd : tr_ok v) (hK : K.methods = #[]) {c : ClassId} (hc : c < v.classes.size) (name desc : String) : (tr_v v K).lookupUp c name desc = v.lookupUp c name desc := by
  have h1 : lookupInSuperclasses (tr_v v K) name desc ((tr_v v K).classes.size + 1) c = lookupInSuperclasses v name desc (v.classes.size + 1) c := tr_upA _ c (hd.1 c hc) _ _ (by omega) (by rw [tr_size]; omega)
  have h2 : lookupInSuperinterfaces (tr_v v K) c name desc = lookupInSuperinterfaces v c name desc := by
    unfold lookupInSuperinterfaces
    simp only [tr_max hd hK hc, tr_sim hd hK hc, tr_kept hc, tr_meth hK]
  unfold Vm.lookupUp
  rw [h1, h2]
theorem tr_find {v : Vm} {K : Class} {n : String} {c : ClassId} (h : v.findClass n = some c) : (tr_v v K).findClass n = some c := by
  unfold Vm.findClass at h ⊢
  show (v.classes.push K).findIdx? _ = _
  rw [Array.findIdx?_push, h]
  rfl
theorem tr_find_lt {v : Vm} {n : String} {c : ClassId} (h : v.findClass n = some c) : c < v.classes.size := by
  unfold Vm.findClass at h
  exact (Array.findIdx?_eq_some_iff_getElem.mp h).1
theorem tr_find_name {v : Vm} {n : String} {c : ClassId} {k : Class} (h : v.findClass n = some c) (hk : v.classes[c]? = some k) : k.name = n := by
  unfold Vm.findClass at h
  obtain ⟨hl, hp, _⟩ := Array.findIdx?_eq_some_iff_getElem.mp h
  have e : v.classes[c] = k := (Array.getElem?_eq_some_iff.mp hk).2
  rw [e] at hp
  simp only [Bool.and_eq_true, beq_iff_eq] at hp
  exact hp.1.1.1
theorem tr_access {v : Vm} {K : Class} (hd : tr_ok v) {flags : Nat} {c t d : ClassId} {ck dk : Class} (ht : t < v.classes.size) (hdl : d < v.classes.size) :
    plainAccess (tr_v v K) flags c ck t d dk = plainAccess v flags c ck t d dk := by
  unfold plainAccess
  rw [tr_sub hd hdl, tr_sub hd ht, tr_sub hd hdl]
theorem tr_cacc {v : Vm} {K : Class} (hd : tr_ok v) {p : Platform} {ck dk : Class} {d : ClassId} (hdk : v.classes[d]? = some dk) : (tr_v v K).classAccessible p ck dk = v.classAccessible p ck dk := by
  unfold Vm.classAccessible
  have h1 : (tr_v v K).moduleBar ck dk = v.moduleBar ck dk := rfl
  have h2 : (tr_v v K).magic dk = v.magic dk := by
    unfold Vm.magic
    cases hp : dk.super with
    | none => rfl
    | some q => rw [tr_mgA _ q (hd.1 q (tr_up_lt hd hdk hp)) (v.classes.size + 1) ((tr_v v K).classes.size + 1) (by omega) (by rw [tr_size]; omega)]
  rw [h1, h2]
end XTr
