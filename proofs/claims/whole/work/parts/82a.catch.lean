section XCatch
/-! a thrown thing that a row of the method's own table takes, where the rows' classes may be linked or not yet -/
/-- a link known at the start: noting it keeps the tables warm; the class stands in the table -/
theorem xq_link {s S : State} {pl : Platform} {o i : Nat} {cT : ClassId} (hW : s.WarmedH S.vm) (hl : s.vm.ClassLinks pl o i cT) : s.WarmedH (S.vm.noted o i (.cls cT)) ∧ S.vm.ClassLinks pl o i cT ∧ ∃ k, S.vm.classes[cT]? = some k := by
  obtain ⟨_, _, _, kt, hd, _, _, _, _, hkt, _, hopen⟩ := hl.here
  obtain ⟨kt', h1, -⟩ := hW.alike.2.2 _ _ hkt
  exact ⟨hW.noted hd hopen (State.rightAt_cls hl), hW.classLinks hl, kt', h1⟩
/-- one row: it takes the object or the search goes on; its link is noted either way -/
theorem xq_row {Q : Handler → Pre} {E : CtlPost} {e : Env} {d : Bool} {acts : List Action} {S : State} {f : JFrame} {q : Addr} {x : ExceptionTableEntry} {t : List ExceptionTableEntry} {cT : ClassId} {ce : Cell} (hx : covers x f.pc = true) (h0 : x.catchType ≠ 0) (hl : S.vm.ClassLinks e.platform f.method.cls x.catchType cT) (hq : S.heap[q]? = some ce) (hv : ce.vm = .none) (k1 : ∃ k, S.vm.classes[ce.cls]? = some k) (k2 : ∃ k, S.vm.classes[cT]? = some k) :
    Sem.wp (findHandler.go f q (x :: t)) Q E e d acts S ↔ if S.vm.assignable ce.cls cT = true then Q (.found x.handlerPc) d acts (S.setVm (S.vm.noted f.method.cls x.catchType (.cls cT))) else Sem.wp (findHandler.go f q t) Q E e d acts (S.setVm (S.vm.noted f.method.cls x.catchType (.cls cT))) := by
  have hA : S.vm.Alike (S.vm.noted f.method.cls x.catchType (.cls cT)) := (Vm.Alike.refl S.vm).noted _ _ _
  obtain ⟨g1, g2⟩ := (resolveClass_links e.toSetting hl).op (op := VmOp.resolveClass f.method.cls x.catchType) rfl
  obtain ⟨a1, b1⟩ := k1
  obtain ⟨a2, b2⟩ := k2
  obtain ⟨a1', c1, -⟩ := hA.2.2 _ _ b1
  obtain ⟨a2', c2, -⟩ := hA.2.2 _ _ b2
  have hs : ∀ k, ce.vm ≠ .statics k := fun k e1 => by rw [hv] at e1; cases e1
  simp only [covers] at hx
  cases hz : S.vm.assignable ce.cls cT with
  | true =>
    have hz' : (S.vm.noted f.method.cls x.catchType (.cls cT)).assignable ce.cls cT = true := by rw [hA.assignable]; exact hz
    simp [findHandler.go, hx, h0, g1, g2, hq, hs, c1, c2, hz', VmOp.dirties, VmOp.acts]
  | false =>
    have hz' : (S.vm.noted f.method.cls x.catchType (.cls cT)).assignable ce.cls cT = false := by rw [hA.assignable]; exact hz
    simp [findHandler.go, hx, h0, g1, g2, hq, hs, c1, c2, hz', VmOp.dirties, VmOp.acts]
/-- a row that lets the object by -/
def xq_no (e : Env) (s : State) (f : JFrame) (ce : Cell) (z : ExceptionTableEntry) : Prop := covers z f.pc = false ∨ (z.catchType ≠ 0 ∧ ∃ cT, s.vm.ClassLinks e.platform f.method.cls z.catchType cT ∧ s.vm.assignable ce.cls cT = false)
/-- the search: rows that let it by, then the one that takes it -/
theorem xq_go {e : Env} {s : State} {f : JFrame} {q : Addr} {ce : Cell} {x : ExceptionTableEntry} {suf : List ExceptionTableEntry} {cT : ClassId} (hv : ce.vm = .none) (k0 : ∃ k, s.vm.classes[ce.cls]? = some k) (hx : covers x f.pc = true) (h0 : x.catchType ≠ 0) (hl : s.vm.ClassLinks e.platform f.method.cls x.catchType cT) (hy : s.vm.assignable ce.cls cT = true) :
    ∀ (pre : List ExceptionTableEntry), (∀ z ∈ pre, xq_no e s f ce z) → ∀ S : State, s.WarmedH S.vm → S.heap[q]? = some ce →
      ∃ vm', s.WarmedH vm' ∧ ∀ (Q : Handler → Pre) (E : CtlPost) (d : Bool) (acts : List Action), Sem.wp (findHandler.go f q (pre ++ x :: suf)) Q E e d acts S ↔ Q (.found x.handlerPc) d acts (S.setVm vm') := by
  obtain ⟨k, hk⟩ := k0
  intro pre
  induction pre with
  | nil =>
    intro _ S hW hq
    obtain ⟨k', hk', -⟩ := hW.alike.2.2 _ _ hk
    obtain ⟨w1, w2, w3⟩ := xq_link hW hl
    refine ⟨_, w1, fun Q E d acts => ?_⟩
    rw [List.nil_append, xq_row hx h0 w2 hq hv ⟨k', hk'⟩ w3, if_pos (by rw [hW.alike.assignable]; exact hy)]
  | cons z zs ih =>
    intro hz S hW hq
    have hzs : ∀ y ∈ zs, xq_no e s f ce y := fun y h => hz y (List.mem_cons_of_mem _ h)
    cases hc : covers z f.pc with
    | false =>
      obtain ⟨vm', w1, w2⟩ := ih hzs S hW hq
      refine ⟨vm', w1, fun Q E d acts => ?_⟩
      rw [List.cons_append, W.findHandler_go_skip hc]
      exact w2 Q E d acts
    | true =>
      rcases hz z List.mem_cons_self with h | ⟨z0, cZ, zl, zn⟩
      · rw [hc] at h; cases h
      · obtain ⟨k', hk', -⟩ := hW.alike.2.2 _ _ hk
        obtain ⟨w1, w2, w3⟩ := xq_link hW zl
        obtain ⟨vm', v1, v2⟩ := ih hzs (S.setVm (S.vm.noted f.method.cls z.catchType (.cls cZ))) w1 hq
        refine ⟨vm', v1, fun Q E d acts => ?_⟩
        rw [List.cons_append, xq_row hc z0 w2 hq hv ⟨k', hk'⟩ w3, if_neg (by rw [hW.alike.assignable, zn]; decide)]
        exact v2 Q E d acts
/-- the step that finds the handler -/
theorem xq_step {tb : Tables} {e : Env} {s t : State} {g : JFrame} {c : Code} {below : List Frame} {q : Addr} {vm' : Vm} {pc : Nat} (h : At s g.method c below) (hf : ∀ (Q : Handler → Pre) (E : CtlPost) (d : Bool) (acts : List Action), Sem.wp (findHandler g q) Q E e d acts ((s.setTop g).pushFrame (.throwing q)) ↔ Q (.found pc) d acts (((s.setTop g).pushFrame (.throwing q)).setVm vm')) (hr : Steps tb e below ((s.setVm vm').setTop { g with pc := pc, stack := [.ref q] }) t) : Steps tb e below ((s.setTop g).pushFrame (.throwing q)) t := by
  obtain ⟨f0, h1⟩ := Option.isSome_iff_exists.mp h.top
  obtain ⟨r, h2⟩ := State.topJava?_eq_some.mp h1
  have hI : (stepThrowing e ((s.setTop g).pushFrame (.throwing q)) q (.java g :: r)).Is ((((s.setTop g).pushFrame (.throwing q)).setVm vm').setFrames (.java { g with pc := pc, stack := [.ref q] } :: r)) [] := by
    simp only [stepThrowing, searchFrame, vmDo]
    generalize hs : Sem.go _ e false [] ((s.setTop g).pushFrame (.throwing q)) = res
    obtain ⟨as, rfl, ha⟩ := Sem.eq_ok_of hs (a := Handler.found pc) (s' := ((s.setTop g).pushFrame (.throwing q)).setVm vm') (acts' := []) (by simp [hf])
    exact ⟨rfl, ha⟩
  obtain ⟨w1, w2⟩ := h.throwing q
  refine Steps.head w1 w2 ?_
  rw [stepThread_throwing (frames_entered h.top _), h2, List.tail_cons, hI.1]
  have e1 : (s.setVm vm').frames = .java f0 :: r := h2
  rw [State.setTop_of_frames _ e1] at hr
  have e2 : (((s.setTop g).pushFrame (.throwing q)).setVm vm').setFrames (.java { g with pc := pc, stack := [.ref q] } :: r) = (s.setVm vm').setFrames (.java { g with pc := pc, stack := [.ref q] } :: r) := by
    have e3 : ∀ F : List Frame, ((s.setFrames (.java g :: r)).setFrames F).setVm vm' = ((s.setVm vm').setFrames (.java g :: r)).setFrames F := fun _ => rfl
    rw [State.setTop_of_frames _ h2, State.pushFrame, e3, State.setFrames_setFrames, State.setFrames_setFrames]
  rw [e2]
  exact hr
/-- caught by the row x of this method's table; the rows ahead let it by -/
theorem x_catch {p : Program} {l : Launch} {e : Env} {R : Room} {s : State} {m : MethodId} {args : Array Value} {below : List Frame} {meth : Method} {c : Code} {H : Heap} {locs : List Loc} {cells slots : Nat} {Q : State → Prop} {ls : Array Slot} {rest : List Value} {pc : Nat} {own name : String} {E : String} {ce : Cell} {q : Addr} (hown : s.vm.findClass own = some m.cls) (pre : List ExceptionTableEntry) (x : ExceptionTableEntry) (suf : List ExceptionTableEntry) (hsplit : c.exceptionTable.toList = pre ++ x :: suf)
    (hpass : ∀ z ∈ pre, covers z pc = false ∨ (z.catchType ≠ 0 ∧ ∃ nm : String, (Cond.classLink own z.catchType nm).before args s = true ∧ va_Nc E nm s)) (hx : covers x pc = true) (h0 : x.catchType ≠ 0)
    (hlink : (Cond.classLink own x.catchType name).before args s = true) (hcast : (Cond.castable E name).before args s = true) (hcell : H[q]? = some ce) (hv : ce.vm = .none) (hcl : s.vm.findClass E = some ce.cls)
    (kk : W p l e R s m args below meth c H locs cells slots Q (F0 m x.handlerPc ls [.ref q])) : vx_W p l e R s m args below meth c H locs cells slots Q (F0 m pc ls rest) q := by
  intro T hT X
  have hpl : e.platform.magicAccessors = ({} : Platform).magicAccessors := by rw [X.admits.platform]
  obtain ⟨c3, c4, n3, n4, hy⟩ := Cond.castable_spec hcast
  cases Option.some.inj (n3.symm.trans hcl)
  obtain ⟨c5, n5, hl⟩ := Cond.classLink_spec hown hlink e.platform hpl
  cases Option.some.inj (n4.symm.trans n5)
  obtain ⟨k9, h9, -⟩ := Vm.findClass_spec hcl
  have hno : ∀ z ∈ pre, xq_no e s (F0 m pc ls rest) ce z := by
    intro z hz
    rcases hpass z hz with h | ⟨z0, nm, l1, v1⟩
    · exact Or.inl h
    · obtain ⟨c6, n6, l6⟩ := Cond.classLink_spec hown l1 e.platform hpl
      obtain ⟨a8, b8, m1, m2, m3⟩ := v1
      cases Option.some.inj (m1.symm.trans hcl)
      cases Option.some.inj (m2.symm.trans n6)
      exact Or.inr ⟨z0, _, l6, m3⟩
  obtain ⟨vm', w1, w2⟩ := xq_go (e := e) (s := s) (f := F0 m pc ls rest) (q := q) (suf := suf) hv ⟨k9, h9⟩ hx h0 hl hy pre hno ((T.setTop (F0 m pc ls rest)).pushFrame (.throwing q)) (by rw [Stand.throwing_vm]; exact X.warmed) (by rw [Stand.throwing_heap, hT]; exact hcell)
  obtain ⟨t, a1, b1⟩ := kk (T.setVm vm') hT (X.noted w1)
  refine ⟨t, xq_step (vm' := vm') X.here (fun Q E d acts => ?_) a1, b1⟩
  rw [W.findHandler_eq (meth := meth) (code := c) (by rw [Stand.throwing_vm]; exact X.method') X.code, hsplit]
  exact w2 Q E d acts
end XCatch
