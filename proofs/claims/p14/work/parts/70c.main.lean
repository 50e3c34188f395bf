section XTm
theorem tr_pool {s s' : State} {K : Class} (hv : s'.vm = tr_v s.vm K) {cls : String} {d : ClassId} (h : s.vm.findClass cls = some d) : s'.poolOf? cls = s.poolOf? cls := by
  unfold State.poolOf?
  simp only [hv, h, tr_find h, tr_cl (tr_find_lt h), Option.bind_eq_bind, Option.bind_some]
theorem tr_names {s s' : State} {K : Class} (hv : s'.vm = tr_v s.vm K) {cls : String} {d : ClassId} (h : s.vm.findClass cls = some d) (i : Nat) (w : Names) : s'.names cls i w = s.names cls i w := by
  unfold State.names
  rw [tr_pool hv h]
theorem tr_res {s s' : State} {K : Class} (hv : s'.vm = tr_v s.vm K) {cls : String} {d : ClassId} (h : s.vm.findClass cls = some d) (i : Nat) : s'.resolvedAt? cls i = s.resolvedAt? cls i := by
  unfold State.resolvedAt?
  simp only [hv, h, tr_find h, tr_cl (tr_find_lt h), Option.bind_eq_bind, Option.bind_some]
theorem tr_opn {s s' : State} {K : Class} (hv : s'.vm = tr_v s.vm K) {cls : String} {d : ClassId} (h : s.vm.findClass cls = some d) (i : Nat) (r : Resolved) : s'.openOr cls i r = s.openOr cls i r := by
  unfold State.openOr
  simp only [hv, h, tr_find h, tr_cl (tr_find_lt h), Option.bind_some]
theorem tr_mem {s s' : State} {K : Class} (hv : s'.vm = tr_v s.vm K) {cls : String} {d : ClassId} (h : s.vm.findClass cls = some d) (i : Nat) : s'.memberEntry? cls i = s.memberEntry? cls i := by
  unfold State.memberEntry?
  rw [tr_pool hv h]
theorem tr_clk {s s' : State} {K : Class} (hd : tr_ok s.vm) (hv : s'.vm = tr_v s.vm K) {cls name : String} {d c : ClassId} (h : s.vm.findClass cls = some d) (h2 : s.vm.findClass name = some c) (i : Nat) :
    s'.classLinks cls i name = s.classLinks cls i name := by
  obtain ⟨dk, hdk⟩ := tr_ex (tr_find_lt h)
  unfold State.classLinks
  simp only [hv, h, h2, tr_find h, tr_find h2, tr_cl (tr_find_lt h2), tr_names hv h, tr_opn hv h, hdk, tr_cs hdk, Option.bind_eq_bind, Option.bind_some, tr_cacc hd hdk]
theorem tr_nm {s s' : State} {K : Class} (hK : K.methods = #[]) (hv : s'.vm = tr_v s.vm K) {x : MethodName} {meth : Method} (h : (s.methodNamed? x).bind s.vm.method? = some meth) :
    (s'.methodNamed? x).bind s'.vm.method? = some meth := by
  unfold State.methodNamed? at h ⊢
  cases hf : s.vm.findClass x.cls with
  | none => rw [hf] at h; simp at h
  | some c =>
    simp only [hf, Option.bind_eq_bind, Option.bind_some] at h
    have hm : (tr_v s.vm K).method? = s.vm.method? := funext (tr_meth hK)
    simp only [hv, tr_find hf, tr_cl (tr_find_lt hf), Option.bind_eq_bind, Option.bind_some, hm]
    exact h
theorem tr_fc {s s' : State} {K : Class} (hv : s'.vm = tr_v s.vm K) {cls : String} {k : Class} (h : (s.vm.findClass cls).bind (s.vm.classes[·]?) = some k) :
    (s'.vm.findClass cls).bind (s'.vm.classes[·]?) = some k := by
  cases hf : s.vm.findClass cls with
  | none => rw [hf] at h; simp at h
  | some c =>
    simp only [hf, Option.bind_some] at h
    simp only [hv, tr_find hf, tr_cl (tr_find_lt hf), Option.bind_some]
    exact h
theorem tr_field {s s' : State} {K : Class} (hd : tr_ok s.vm) (hv : s'.vm = tr_v s.vm K) {cls name desc : String} {r : ClassId × Class × Nat × Field} (h : s.fieldFound? cls name desc = some r) :
    s'.fieldFound? cls name desc = some r ∧ (∃ o, s.vm.findClass cls = some o) ∧ s.vm.classes[r.1]? = some r.2.1 := by
  unfold State.fieldFound? at h ⊢
  cases hp : parseFieldDescriptor desc with
  | none => simp [hp] at h
  | some ty =>
    cases hf : s.vm.findClass cls with
    | none => simp [hp, hf] at h
    | some c =>
      simp only [hp, hf, Option.bind_eq_bind, Option.bind_some] at h
      simp only [hv, tr_find hf, Option.bind_eq_bind, Option.bind_some, tr_lookF hd (tr_find_lt hf)]
      cases hl : lookupField s.vm name ty (s.vm.classes.size + 1) c with
      | none => simp [hl] at h
      | some q =>
        obtain ⟨o, i⟩ := q
        simp only [hl, Option.bind_some] at h ⊢
        cases hk : s.vm.classes[o]? with
        | none => simp [hk] at h
        | some k =>
          simp only [hk, Option.bind_some] at h
          simp only [tr_cs hk, Option.bind_some]
          refine ⟨h, ⟨c, rfl⟩, ?_⟩
          cases hx : k.fields[i]? with
          | none => simp [hx] at h
          | some f => simp only [hx, Option.bind_some, Option.pure_def, Option.some.injEq] at h; subst h; exact hk
/-- the words that one more kind behind the table leaves true, whatever they name but an interface's method -/
def tr_kind (faces : List String) : Jvm.Cond → Bool
  | .code .. | .codeSync .. | .codeWith .. | .static .. | .declares .. | .privateMethod .. | .instanceMethod .. | .native .. => true
  | .initialized .. | .instantiable .. | .soleField .. | .constant .. | .constantLong .. | .stringRef .. | .superclass .. | .arrayClass .. => true
  | .classLink .. | .fieldLink .. | .lays .. | .laysFinal .. | .castable .. => true
  | .methodLink _ _ x => !("java/lang/invoke/MethodHandle" :: "java/lang/invoke/VarHandle" :: faces).contains x.cls
  | _ => false
def tr_faces (v : Vm) : List String := (v.classes.toList.filter (·.isInterface)).map (·.name)
theorem tr_face {v : Vm} {c : ClassId} {k : Class} (hk : v.classes[c]? = some k) (h : (tr_faces v).contains k.name = false) : k.isInterface = false := by
  cases hi : k.isInterface with
  | false => rfl
  | true =>
    have h1 : k ∈ v.classes.toList := by
      obtain ⟨hl, e⟩ := Array.getElem?_eq_some_iff.mp hk
      rw [← e]
      exact Array.getElem_mem_toList hl
    have h2 : k.name ∈ tr_faces v := List.mem_map.mpr ⟨k, List.mem_filter.mpr ⟨h1, hi⟩, rfl⟩
    have h3 : (tr_faces v).contains k.name = true := List.contains_iff_mem.mpr h2
    rw [h] at h3
    exact absurd h3 Bool.false_ne_true
theorem tr_found {s s' : State} {K : Class} (hd : tr_ok s.vm) (hK : K.methods = #[]) (hv : s'.vm = tr_v s.vm K) {x : MethodName} {c : ClassId} {m : MethodId} (hf : s.vm.findClass x.cls = some c)
    (hx : (!("java/lang/invoke/MethodHandle" :: "java/lang/invoke/VarHandle" :: tr_faces s.vm).contains x.cls) = true) (h : s.methodFound? x.cls x.name x.desc = some m) :
    s'.methodFound? x.cls x.name x.desc = some m ∧ ∃ mk, s.vm.classes[m.cls]? = some mk := by
  obtain ⟨k, hk⟩ := tr_ex (tr_find_lt hf)
  have hn := tr_find_name hf hk
  simp only [List.contains_cons, Bool.not_eq_true', Bool.or_eq_false_iff] at hx
  have n1 : k.name ≠ "java/lang/invoke/MethodHandle" := by rw [hn]; exact beq_eq_false_iff_ne.mp hx.1
  have n2 : k.name ≠ "java/lang/invoke/VarHandle" := by rw [hn]; exact beq_eq_false_iff_ne.mp hx.2.1
  have hni : k.isInterface = false := tr_face hk (by rw [hn]; exact hx.2.2)
  have hpoly : ∀ y, signaturePolymorphic k y = false := fun y => by simp [signaturePolymorphic, n1, n2]
  have h1 := (State.methodFound?_class hf hk hni hpoly m).mp h
  obtain ⟨h2, mk, h3⟩ := h1
  refine ⟨(State.methodFound?_class (s := s') (k := k) (by rw [hv]; exact tr_find hf) (by rw [hv]; exact tr_cs hk) hni hpoly m).mpr ⟨?_, mk, ?_⟩, mk, h3⟩
  · rw [hv, tr_lookup hd hK (tr_find_lt hf)]; exact h2
  · rw [hv]; exact tr_cs h3
theorem tr_mapped {α β : Type} {o o' : Option α} {f : α → β} {b : β} (h : o.map f = some b) (ht : ∀ x, o = some x → o' = some x) : o'.map f = some b := by
  obtain ⟨x, hx, hb⟩ := Option.map_eq_some_iff.mp h
  rw [ht x hx]
  exact congrArg some hb
theorem tr_main {s s' : State} {K : Class} (hd : tr_ok s.vm) (hK : K.methods = #[]) (hv : s'.vm = tr_v s.vm K) {a : Array Value} {c : Jvm.Cond} (hc : tr_kind (tr_faces s.vm) c = true) (h : c.before a s = true) :
    c.before a s' = true := by
  unfold Cond.before Cond.holds at h ⊢
  rw [beq_iff_eq] at h ⊢
  cases c <;> first | exact absurd hc Bool.false_ne_true | skip
  case code x bytes ml ret => simp only [Cond.value] at h ⊢; exact tr_mapped h (fun _ => tr_nm hK hv)
  case codeSync => simp only [Cond.value] at h ⊢; exact tr_mapped h (fun _ => tr_nm hK hv)
  case codeWith => simp only [Cond.value] at h ⊢; exact tr_mapped h (fun _ => tr_nm hK hv)
  case static => simp only [Cond.value] at h ⊢; exact tr_mapped h (fun _ => tr_nm hK hv)
  case declares => simp only [Cond.value] at h ⊢; exact tr_mapped h (fun _ => tr_nm hK hv)
  case privateMethod => simp only [Cond.value] at h ⊢; exact tr_mapped h (fun _ => tr_nm hK hv)
  case instanceMethod => simp only [Cond.value] at h ⊢; exact tr_mapped h (fun _ => tr_nm hK hv)
  case native => simp only [Cond.value] at h ⊢; exact tr_mapped h (fun _ => tr_nm hK hv)
  case initialized => simp only [Cond.value] at h ⊢; exact tr_mapped h (fun _ => tr_fc hv)
  case instantiable => simp only [Cond.value] at h ⊢; exact tr_mapped h (fun _ => tr_fc hv)
  case arrayClass => simp only [Cond.value] at h ⊢; exact tr_mapped h (fun _ => tr_fc hv)
  case soleField cls name =>
    simp only [Cond.value] at h ⊢
    cases hf : s.vm.findClass cls with
    | none => rw [hf] at h; simp at h
    | some d =>
      simp only [hf, Option.bind_some] at h
      simp only [hv, tr_find hf, tr_cl (tr_find_lt hf), Option.bind_some]
      exact h
  case constant cls i w =>
    simp only [Cond.value] at h ⊢
    cases hf : s.vm.findClass cls with
    | none => rw [hf] at h; simp at h
    | some d =>
      simp only [hf] at h
      simp only [tr_names hv hf, hv, tr_find hf]
      exact h
  case constantLong cls i w =>
    simp only [Cond.value] at h ⊢
    cases hf : s.vm.findClass cls with
    | none => rw [hf] at h; simp at h
    | some d =>
      simp only [hf] at h
      simp only [tr_names hv hf, hv, tr_find hf]
      exact h
  case stringRef cls i w =>
    simp only [Cond.value] at h ⊢
    cases hf : s.vm.findClass cls with
    | none => rw [hf] at h; simp at h
    | some d =>
      simp only [hf] at h
      simp only [tr_names hv hf, tr_res hv hf, hv, tr_find hf]
      exact h
  case superclass cls sup =>
    simp only [Cond.value] at h ⊢
    cases hf : s.vm.findClass cls with
    | none => rw [hf] at h; simp at h
    | some d =>
      cases hg : s.vm.findClass sup with
      | none => rw [hf, hg] at h; simp at h
      | some e =>
        simp only [hf, hg] at h
        simp only [hv, tr_find hf, tr_find hg, tr_cl (tr_find_lt hf), tr_cl (tr_find_lt hg)]
        exact h
  case castable cls target =>
    simp only [Cond.value] at h ⊢
    cases hf : s.vm.findClass cls with
    | none => rw [hf] at h; simp at h
    | some d =>
      cases hg : s.vm.findClass target with
      | none => rw [hf, hg] at h; simp at h
      | some e =>
        simp only [hf, hg] at h
        simp only [hv, tr_find hf, tr_find hg, tr_asg hd (tr_find_lt hf) (tr_find_lt hg)]
        exact h
  case classLink cls i name =>
    simp only [Cond.value] at h ⊢
    have h0 := h
    unfold State.classLinks at h0
    cases hf : s.vm.findClass cls with
    | none => rw [hf] at h0; simp at h0
    | some d =>
      cases hg : s.vm.findClass name with
      | none => rw [hf, hg] at h0; simp at h0
      | some e => rw [tr_clk hd hv hf hg]; exact h
  case lays cls owner name desc =>
    simp only [Cond.value] at h ⊢
    cases hf : s.vm.findClass cls with
    | none => rw [hf] at h; simp at h
    | some c =>
      cases hg : s.fieldFound? owner name desc with
      | none => rw [hf, hg] at h; simp at h
      | some r =>
        obtain ⟨c', k', i, f⟩ := r
        obtain ⟨e1, ⟨o, e2⟩, e3⟩ := tr_field hd hv hg
        simp only [hf, hg, e2] at h
        simp only [e1, hv, tr_find hf, tr_find e2, tr_cl (tr_find_lt hf), tr_asg hd (tr_find_lt hf) (tr_lt e3), tr_decl hd _ _ (tr_find_lt hf)]
        exact h
  case laysFinal cls owner name desc =>
    simp only [Cond.value] at h ⊢
    cases hf : s.vm.findClass cls with
    | none => rw [hf] at h; simp at h
    | some c =>
      cases hg : s.fieldFound? owner name desc with
      | none => rw [hf, hg] at h; simp at h
      | some r =>
        obtain ⟨c', k', i, f⟩ := r
        obtain ⟨e1, ⟨o, e2⟩, e3⟩ := tr_field hd hv hg
        simp only [hf, hg, e2] at h
        simp only [e1, hv, tr_find hf, tr_find e2, tr_cl (tr_find_lt hf), tr_asg hd (tr_find_lt hf) (tr_lt e3), tr_decl hd _ _ (tr_find_lt hf)]
        exact h
  case fieldLink cls index ref name desc =>
    simp only [Cond.value] at h ⊢
    cases hm : s.memberEntry? cls index with
    | none => rw [hm] at h; simp at h
    | some p =>
      obtain ⟨ci, via⟩ := p
      cases hf : s.vm.findClass cls with
      | none => rw [hm, hf] at h; simp at h
      | some d =>
        cases hg : s.fieldFound? ref name desc with
        | none => rw [hm, hf, hg] at h; simp at h
        | some r =>
          obtain ⟨c, k, i, f⟩ := r
          cases ht : s.vm.findClass ref with
          | none => rw [hm, hf, hg, ht] at h; simp at h
          | some t =>
            obtain ⟨e1, _, e3⟩ := tr_field hd hv hg
            simp only [hm, hf, hg, ht] at h
            simp only [tr_mem hv hf, hm, e1, tr_clk hd hv hf ht, tr_names hv hf, tr_opn hv hf]
            simp only [hv, tr_find hf, tr_find ht, tr_cl (tr_find_lt hf), tr_access hd (tr_find_lt ht) (tr_find_lt hf)]
            exact h
  case methodLink cls index x =>
    simp only [Cond.value] at h ⊢
    cases hm : s.memberEntry? cls index with
    | none => rw [hm] at h; simp at h
    | some p =>
      obtain ⟨ci, via⟩ := p
      cases hf : s.vm.findClass cls with
      | none => rw [hm, hf] at h; simp at h
      | some d =>
        cases ht : s.vm.findClass x.cls with
        | none => rw [hm, hf, ht] at h; simp at h
        | some t =>
          cases hg : s.methodFound? x.cls x.name x.desc with
          | none => rw [hm, hf, ht, hg] at h; simp at h
          | some m =>
            obtain ⟨e1, mk, e2⟩ := tr_found hd hK hv ht hc hg
            simp only [hm, hf, hg, ht] at h
            simp only [tr_mem hv hf, hm, e1, tr_clk hd hv hf ht, tr_names hv hf, tr_opn hv hf]
            simp only [hv, tr_find hf, tr_find ht, tr_cl (tr_find_lt hf), tr_cl (tr_find_lt ht), tr_cl (tr_lt e2), tr_meth hK, tr_access hd (tr_find_lt ht) (tr_find_lt hf)]
            exact h
end XTm
