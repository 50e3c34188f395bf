/-! Runs that come to a store which the model refuses: the invocation, and every one below it that has no handler, never returns. -/
section XDie
/-- EMPTY is no array that may stand where byte[] is asked for -/
def x_Bad (u : xPi) (s : State) : Prop := ∃ (cell : Cell) (kv : Class), s.heap[xp_ad u 1000000202]? = some cell ∧ (∀ q, cell.vm ≠ .statics q) ∧ s.vm.classes[cell.cls]? = some kv ∧ xp_ad u 1000000202 < xp_b u ∧ ∀ comp : ClassId, s.vm.findClass "[B" = some comp → s.vm.assignable cell.cls comp = false
theorem x_Bad_moved {u : xPi} {s U : State} {H : Heap} {locs : List Loc} (hS : va_S (xp_A u) s.heap H locs) (hU : U.heap = H) (hW : s.WarmedH U.vm) (h : x_Bad u s) : x_Bad u U := by
  obtain ⟨cell, kv, h1, h2, h3, h4, h5⟩ := h
  obtain ⟨kv', hk', -⟩ := hW.alike.2.2 _ _ h3
  refine ⟨cell, kv', ?_, h2, hk', h4, fun comp hc => ?_⟩
  · rw [hU, hS.2.1 _ (Array.getElem?_eq_some_iff.mp h1).1 (Nat.not_le.mpr h4)]
    exact h1
  · rw [hW.alike.findClass] at hc
    rw [hW.alike.assignable]
    exact h5 comp hc
theorem x_Bad_calling {u : xPi} {U : State} {g : JFrame} {mk : MethodId} {a : Array Value} (h : x_Bad u U) : x_Bad u (U.calling g mk a) := h
/-- the method never returns from such a start -/
def x_Dy (u : xPi) (l : Launch) (y : xM) (d : Nat) (as : List Value) (h : xH) (mc ms : Nat) : Prop :=
  ∀ (p : Program) (e : Env), l.admits e → FairCas e.choices → FairClock e.choices → ∀ (s : State) (m : MethodId) (args : Array Value) (below : List Frame),
    s.frames = .invoking m args :: below → (headSpec (x_ws u y) (x_rm d mc ms)).appliesLoose y.1 e.platform s = true → x_Pc u as h args s → x_Bad u s →
    ∃ s₂, Steps p.tables e below s s₂ ∧ Refuse.Cert p.tables below s₂
/-- from the note of an invocation into its body -/
theorem x_enter {l : Launch} {x : MethodName} {S : Spec} {code : ByteArray} {maxLocals : Nat} {ret : Option FieldType} {Q : State → Prop} (hx : plainName x.cls = true)
    {p : Program} {e : Env} (ha : l.admits e) (hc : FairCas e.choices) (hk : FairClock e.choices) {s : State} {m : MethodId} {args : Array Value} {below : List Frame} (hf : s.frames = .invoking m args :: below) (happ : S.appliesLoose x e.platform s = true)
    (his : (Cond.code x code maxLocals ret).before args s = true)
    (body : ∀ (meth : Method) (c : Code) (s₁ : State), BodyLoose p l x S code maxLocals ret e s m args below meth c s₁ → c.maxLocals = maxLocals → c.exceptionTable = #[] →
      ∃ s₂, Steps p.tables e below (s₁.setTop (entryFrame m args maxLocals)) s₂ ∧ Q s₂) : ∃ s₂, Steps p.tables e below s s₂ ∧ Q s₂ := by
  obtain ⟨hrun, hable, halone, hname, hhears, hinit, hroom, hpre⟩ := (Spec.appliesLoose_iff hf).mp happ
  obtain ⟨meth, c, hmeth, hcode, hbytes, hlocals, hret, hlocks, hempty, -⟩ := Cond.code_spec hname his
  have hcur := State.cur_lt_of_frames hf
  have hf1 : (s.setFrames (.java (entryFrame m args maxLocals) :: below)).frames = .java (entryFrame m args maxLocals) :: below := State.frames_setFrames _ hcur
  have ht1 := State.topJava?_of_frames hf1
  have hplain : (s.setFrames (.java (entryFrame m args maxLocals) :: below)).plainMethod m := State.plainMethod.of_named (s := s) (plainFor_of_name hx) hname hmeth
  have hAt : At (s.setFrames (.java (entryFrame m args maxLocals) :: below)) m c below :=
    ⟨by rw [ht1]; rfl, ⟨[], by rw [hf1]; rfl⟩, hrun, by simpa using hable, by simpa using halone,
      by rw [State.code?_eq]; simp [State.setFrames, hmeth, hcode], hplain⟩
  have hstep : (stepThread p.tables e s).1 = (s.setFrames (.java (entryFrame m args maxLocals) :: below)).setTop (entryFrame m args maxLocals) := by
    have hfull : e.platform.stackFull (s.setFrames below).me (s.setFrames below).frames c.maxLocals = false := by
      obtain ⟨-, h1, -, h2⟩ := State.hasRoom_stack hroom
      rw [hf, List.length_cons] at h1
      rw [State.localsInUse_invoking hf hmeth hcode] at h2
      have hw := stackUse_le_stackWeight below
      rw [State.frames_setFrames _ hcur]
      exact Platform.stackFull_eq_false (by rw [State.stackLimits_setFrames]; omega) (by rw [State.stackLimits_setFrames]; omega)
    rw [stepThread_invoking hf, (doInvoke_java (s := s.setFrames below) (e := e) (meth := meth) (code := c) hmeth hcode hlocks hfull).1, State.setTop_self ht1]
    simp only [State.pushFrame, State.frames_setFrames _ hcur, State.setFrames_setFrames, hlocals, entryFrame]
  obtain ⟨s₂, hs, hq⟩ := body meth c _
    ⟨ha, hc, hk, by cases p <;> rfl, hf, hname, hhears, hinit, hroom, hpre, hmeth, hret, hlocks, hbytes, rfl, hAt⟩ hlocals (by simpa using hempty)
  exact ⟨s₂, Steps.head (tb := p.tables) (e := e) ⟨hrun, hable, halone⟩ ⟨[.invoking m args], hf, by simp, by simp⟩ (hstep ▸ hs), hq⟩
section Act
variable {u : xPi} {l : Launch}
/-- a method that never returns, out of one activation -/
theorem x_dy_of {y : xM} {d : Nat} {as : List Value} {h : xH} {mc ms : Nat} (hpl : plainName y.1.cls = true) (hfit : x_fit as y.2.2.1 = true)
    (act : ∀ (p : Program) (e : Env) (s : State) (m : MethodId) (args : Array Value) (below : List Frame) (meth : Method) (c : Code), x_Ctx u y p s m args meth c → c.exceptionTable = #[] → x_Bad u s →
      x_K u y.2.2.1 p l e (x_rm d mc ms) s m args below meth c (Refuse.Cert p.tables below) 0 (lv_args 0 as) [] h 0 0) : x_Dy u l y d as h mc ms := by
  intro p e ha hc hk s m args below hf happ hP hB
  have hpre := ((Spec.appliesLoose_iff hf).mp happ).2.2.2.2.2.2.2
  have hcd : (Cond.code y.1 y.2.1 y.2.2.1 y.2.2.2).before args s = true := atoms_spec (ws := x_ws u y) hpre _ List.mem_cons_self
  refine x_enter hpl ha hc hk hf happ hcd ?_
  intro meth c s₁ B hml hx
  obtain ⟨rfl, hE, hR⟩ := hP
  have hctx : x_Ctx u y p s m (as.map (x_v (xp_ad u))).toArray meth c := ⟨B.exec, B.bytes, hml, findClass_of_methodNamed B.named, (fun w hw => atoms_spec (ws := x_ws u y) B.pre w (List.mem_cons_of_mem _ hw)), B.returns, B.notSynchronized, (name_of_methodNamed B.named B.method).1, hE⟩
  have hfit' : (lg_sl (as.map (x_v (xp_ad u)))).length ≤ y.2.2.1 := by rw [x_sl_len]; exact of_decide_eq_true hfit
  have hl := lv_entry (as.map (x_v (xp_ad u))) (n := y.2.2.1) hfit'
  have hh0 : s₁.heap = s.heap := by rw [B.state]; rfl
  have hW : W p l e (x_rm d mc ms) s m (as.map (x_v (xp_ad u))).toArray below meth c s.heap [] 0 0 (Refuse.Cert p.tables below) (entryFrame m (as.map (x_v (xp_ad u))).toArray y.2.2.1) := by
    rw [lg_entry_eq]
    exact act p e s m _ below meth c hctx hx hB _ s.heap [] (by rw [x_l_args]; exact hl) hR va_S.rf
  exact hW s₁ hh0 (Stand.of_body B)
end Act
section Call
variable {p : Program} {l : Launch} {e : Env} {R : Room} {s : State} {m : MethodId} {args : Array Value} {below : List Frame} {meth : Method} {c : Code} {H : Heap} {locs : List Loc} {cells slots : Nat}
/-- a call of a method that never returns -/
theorem x_wcallD {own C : String} {index : Nat} {y : MethodName} {bytes : ByteArray} {maxL : Nat} {ret : Option FieldType} {ws : List Cond} {rm : Room} {P : Array Value → State → Prop}
    (hD : ∀ (s : State) (m : MethodId) (args : Array Value) (below : List Frame), s.frames = .invoking m args :: below → (headSpec ws rm).appliesLoose y e.platform s = true → P args s → ∃ s₂, Steps p.tables e below s s₂ ∧ Refuse.Cert p.tables below s₂)
    (hexec : p.tables.exec = Jvm.exec) (hx : c.exceptionTable = #[]) (hlk : meth.locks = false)
    (hown : s.vm.findClass own = some m.cls) (hlink : (Cond.methodLink own index y).before args s = true) (hinst : (Cond.instanceMethod y).before args s = true) (hsel : (Cond.selects C y y).before args s = true)
    (hcode : (Cond.code y bytes maxL ret).before args s = true) (hy : y.cls ≠ "java/lang/invoke/MethodHandle" ∧ y.cls ≠ "java/lang/invoke/VarHandle")
    (hframes : rm.frames + 1 ≤ R.frames) (hlocals : 8 + (maxL + 11) + rm.locals ≤ R.locals) (hcells : cells + rm.cells ≤ R.cells) (hslots : slots + rm.slots ≤ R.slots)
    (hws : ∀ w ∈ ws, ∀ a' U, s.WarmedH U.vm → w.before a' U = true) (hcw : Cond.code y bytes maxL ret ∈ ws) (hinit : ∀ a' U, s.WarmedH U.vm → (Cond.initialized y.cls).before a' U = true)
    {b : Addr} {cellB : Cell} (hcell : H[b]? = some cellB) (hobj : cellB.vm.isStatics = false) (hcls : s.vm.findClass C = some cellB.cls)
    {g : JFrame} (hg : g.method = m) (hlo : g.locked = none) (hen : g.entered = []) (hsize : g.locals.size = c.maxLocals) {argsL rest : List Value} (hlen : ∀ sig, parseMethodDescriptor y.desc = some sig → argsL.length = sig.parameters.length)
    (hstack : g.stack = argsL.reverse ++ .ref b :: rest) (hW : 2 * g.monitorRoom + (rest.map fun v => v.category).sum ≤ 8) (hdg : decode c.code g.pc = .ok (.invokevirtual index, 3))
    (hP : ∀ (U : State) (g' : JFrame) (mk : MethodId), U.heap = H → s.WarmedH U.vm → P (Value.ref b :: argsL).toArray (U.calling g' mk (Value.ref b :: argsL).toArray)) :
    W p l e R s m args below meth c H locs cells slots (Refuse.Cert p.tables below) g := by
  intro T hT X
  obtain ⟨mk, methM, hnamed, hmethM, hstM, habM⟩ := Cond.instanceMethod_spec hinst
  obtain ⟨methM', cM, hmethM', -, -, -, -, -, -, hsigM⟩ := Cond.code_spec hnamed hcode
  cases hmethM.symm.trans hmethM'
  obtain ⟨c2, r2, m2, q1, q2, q3, q4, kP, hkP, hkPi⟩ := Cond.selects_spec hsel
  cases hcls.symm.trans q1
  cases (State.methodFound?_of_named hnamed hy).symm.trans q2
  cases hnamed.symm.trans q3
  have hselP : selectMethod e.platform s.vm cellB.cls mk = .method mk := by rw [Launch.admits_selectMethod X.admits]; exact q4
  obtain ⟨vm₁, X₁, hstep₁⟩ := X.invokevirtual hexec hown hlink hnamed hmethM hstM hkP hkPi hy (a := b) (cell := cellB) (by rw [hT]; exact hcell)
    (fun z h => by rw [h] at hobj; cases hobj) hselP hmethM habM hkP hkPi (g := g) hg (argsL := argsL) (rest := rest) (hlen _ hsigM) hstack hdg
  have hg' : ({ g with stack := rest } : JFrame).method = m := hg
  obtain ⟨methY, cY, hmY, hcY, -, hlY, -, -, -, -⟩ := Cond.code_spec (X₁.named hnamed) (hws _ hcw (Value.ref b :: argsL).toArray _ X₁.warmed)
  obtain ⟨kY, hkY, -⟩ := className_of_methodNamed (X₁.named hnamed)
  have hinitY : kY.init = .initialized := Cond.initialized_spec (findClass_of_methodNamed (X₁.named hnamed)) hkY (hinit (Value.ref b :: argsL).toArray _ X₁.warmed)
  have hAt : At (T.setVm vm₁) ({ g with stack := rest } : JFrame).method c below := by rw [hg']; exact X₁.here
  have happ : (headSpec ws rm).appliesLoose y e.platform ((T.setVm vm₁).calling { g with stack := rest } mk (Value.ref b :: argsL).toArray) = true :=
    Spec.appliesLoose_calling (g := { g with stack := rest }) hAt hdg (X₁.named hnamed) hkY hinitY
      (X₁.room_calling (g := { g with stack := rest }) (R' := (headSpec ws rm).room) hsize hmY hcY hframes (by rw [hlY]; show _ + (maxL + 11) + rm.locals ≤ R.locals; have h8 : 2 * ({ g with stack := rest } : JFrame).monitorRoom + (({ g with stack := rest } : JFrame).stack.map fun v => v.category).sum ≤ 8 := hW; omega) hcells hslots)
      (atoms_intro fun w hw => hws w hw _ _ X₁.warmed)
  have hfr : ((T.setVm vm₁).setTop { g with stack := rest }).frames = .java { g with stack := rest } :: below := by rw [State.frames_setTop' _ hAt.top, X₁.tail]
  have hfc : ((T.setVm vm₁).calling { g with stack := rest } mk (Value.ref b :: argsL).toArray).frames = .invoking mk (Value.ref b :: argsL).toArray :: .java { g with stack := rest } :: below := by rw [State.frames_calling hAt.top, X₁.tail]
  obtain ⟨s₂, ⟨n, hn, wn⟩, V, I, Hh, hv, hi⟩ := hD _ mk _ _ hfc happ (hP (T.setVm vm₁) { g with stack := rest } mk hT X₁.warmed)
  have hm1 : (T.setVm vm₁).vm.method? m = some meth := X₁.method'
  -- the callee's invocation has a certificate above this frame: so this one has one above its own invoker's frames
  have key : ∃ s₂, Steps p.tables e below (doInvoke e ((T.setVm vm₁).setTop { g with stack := rest }) [] mk (Value.ref b :: argsL).toArray).1 s₂ ∧ Refuse.Cert p.tables below s₂ := by
    obtain ⟨hrun, hable, halone, -⟩ := (Spec.appliesLoose_iff hfc).mp happ
    have hgo : ((T.setVm vm₁).calling { g with stack := rest } mk (Value.ref b :: argsL).toArray).goesOn := ⟨hrun, hable, halone⟩
    obtain ⟨t, ht⟩ : ∃ t, ((T.setVm vm₁).setTop { g with stack := rest }).threads[((T.setVm vm₁).setTop { g with stack := rest }).cur]? = some t := by obtain ⟨t, ht, _⟩ := State.frames_cons hfr; exact ⟨t, ht⟩
    have hstep : (stepThread p.tables e ((T.setVm vm₁).calling { g with stack := rest } mk (Value.ref b :: argsL).toArray)).1 = (doInvoke e ((T.setVm vm₁).setTop { g with stack := rest }) [] mk (Value.ref b :: argsL).toArray).1 := by
      rw [stepThread_invoking hfc, doInvoke_state e _ _, State.calling, State.pushFrame, State.setFrames_setFrames, ← hfr, State.setFrames_self ht]
    have hw0 : Within ((T.setVm vm₁).calling { g with stack := rest } mk (Value.ref b :: argsL).toArray) (.java { g with stack := rest } :: below) := ⟨[.invoking mk (Value.ref b :: argsL).toArray], by rw [hfc]; rfl, by simp, by simp⟩
    have hm0 : ((T.setVm vm₁).calling { g with stack := rest } mk (Value.ref b :: argsL).toArray).vm.method? m = some meth := hm1
    cases n with
    | zero =>
      cases hn
      refine ⟨_, Steps.refl _, _, _, Refuse.holds_via Hh (Refuse.Misses.of_empty hx) X.code hlk hg' hlo hen, ⟨?_, ?_⟩, .inl ?_⟩
      · rw [← hstep]; exact Hh.vm e _ hv
      · rw [← hstep]; exact stepThread_method? p.tables e hm0
      · rw [← hstep]; exact Hh.step e _ hv hi hw0
    | succ k =>
      rw [stepsAlone_succ _ hgo, hstep] at hn
      refine ⟨s₂, ⟨k, hn, fun j hj => ?_⟩, _, _, Refuse.holds_via Hh (Refuse.Misses.of_empty hx) X.code hlk hg' hlo hen, ⟨hv, ?_⟩, .inl hi⟩
      · have := wn (j + 1) (by omega)
        rw [stepsAlone_succ _ hgo, hstep] at this
        exact Within.weaken (mid := [.java { g with stack := rest }]) this
      · rw [← hn, ← hstep]; exact Refuse.stepsAlone_method? p.tables e k (stepThread_method? p.tables e hm0)
  obtain ⟨s₃, hst, hce⟩ := key
  exact ⟨s₃, hstep₁ _ fun acts => by rw [doInvoke_state]; exact hst, hce⟩
end Call
section Site
variable {u : xPi} {mt : Nat → xM} {y : xM} {k k1 : Nat}
/-- a call at which the callee never returns -/
def x_okD (u : xPi) (mt : Nat → xM) (y : xM) (k : Nat) (f : xI) : Prop :=
  ∀ (p : Program) (l : Launch) (e : Env) (R : Room) (s : State) (m : MethodId) (args : Array Value) (below : List Frame) (meth : Method) (c : Code), x_Ctx u y p s m args meth c → c.exceptionTable = #[] → x_Bad u s →
    ∀ (lv : xL) (st : List Value) (h : xH) (nc ns : Nat) (j : Nat) (as : List Value) (g : xG), f lv st h nc ns = some (.inr (.inr (j, as, g))) →
      g.2.2.2.2.1 = nc ∧ g.2.2.2.2.2 = ns ∧ ∀ (d mc ms : Nat), x_Dy u l (mt j) d as g.2.2.2.1 mc ms → d + 2 ≤ R.frames → 64 * (d + 2) ≤ R.locals → nc + mc ≤ R.cells → ns + ms ≤ R.slots →
        x_K u y.2.2.1 p l e R s m args below meth c (Refuse.Cert p.tables below) k lv st h nc ns
/-- as x_vok, of the plain kind alone -/
def x_vokD (u : xPi) (mt : Nat → xM) (own : String) (idx n : Nat) (q : Nat × Nat) : Prop := ∃ (C : String) (T : u_T) (N : Nat), (xp_cl u)[q.1]? = some (C, T, N) ∧ x_jok u (mt q.2) n ∧ Cond.instanceMethod (mt q.2).1 ∈ xp_G u ∧ Cond.selects C (mt q.2).1 (mt q.2).1 ∈ xp_G u ∧ Cond.methodLink own idx (mt q.2).1 ∈ xp_G u
theorem xd_callV {idx n : Nat} {tab : List (Nat × Nat)} (hG : ∀ w ∈ xp_G u, goodWord w = true) (hv : ∀ q ∈ tab, x_vokD u mt y.1.cls idx n q) (hd : decode y.2.1 k = .ok (.invokevirtual idx, 3)) : x_okD u mt y k (xi_callV k1 n tab) := by
  intro p l e R s m args below meth c hc hx hB lv st h nc ns j as g ho
  unfold xi_callV at ho
  split at ho
  · rename_i a r hst
    split at ho
    · rename_i z hz
      split at ho
      · rename_i j0 hj
        split at ho
        · rename_i hroom
          cases ho
          refine ⟨rfl, rfl, fun d mc ms hD hf1 hf2 hc1 hc2 ls H locs hl hR hS => ?_⟩
          obtain ⟨C, T, N, g1, ⟨j1, j2, j3, j4, j5, j6⟩, g3, gs, gl⟩ := hv _ (x_look_mem hj)
          dsimp only at g1 j1 j2 j3 j4 j5 j6 g3 gs gl
          have hrl : 8 + ((mt j).2.2.1 + 11) + (x_rm d mc ms).locals ≤ R.locals := by
            show 8 + ((mt j).2.2.1 + 11) + 64 * (d + 1) ≤ R.locals
            omega
          have hlen : ((st.take n).reverse.map (x_v (xp_ad u))).length = n := by rw [List.length_map, List.length_reverse]; exact (x_split hst).2
          have hE := hc.2.2.2.2.2.2.2.2
          have hts := hc.2.2.2.2.1
          obtain ⟨hst1, hst2⟩ := x_split hst
          obtain ⟨cellB, hcB, hoB, hclB⟩ := va_recv (q0 := 0) hE.2.2.2.2.1 (x_P1 hR hz trivial) g1 rfl
          have hstk : st.map (x_v (xp_ad u)) = (((st.take n).reverse.map (x_v (xp_ad u))).reverse) ++ .ref (xp_ad u a) :: r.map (x_v (xp_ad u)) := by
            conv => lhs; rw [hst1]
            simp [x_v]
          have hroom' : 2 * (F0 m k ls (st.map (x_v (xp_ad u)))).monitorRoom + ((r.map (x_v (xp_ad u))).map fun v => v.category).sum ≤ 8 := by
            refine lv_room ?_
            rw [List.map_map]
            rw [show (fun v : Value => v.category) ∘ x_v (xp_ad u) = (fun v : Value => v.category) from funext (fun v => x_cat _ v)]
            exact hroom
          have hgood := x_good hG j1
          intro T0 hT0 X
          refine x_wcallD (y := (mt j).1) (bytes := (mt j).2.1) (maxL := (mt j).2.2.1) (ret := (mt j).2.2.2) (ws := x_ws u (mt j)) (rm := x_rm d mc ms)
            (P := fun args s => x_Pc u (.ref a :: (st.take n).reverse) h args s ∧ x_Bad u s)
            (fun s m args below hf happ hP => hD p e X.admits X.cas X.clock s m args below hf happ hP.1 hP.2)
            hc.1 hx hc.2.2.2.2.2.2.1 hc.2.2.2.1 (hts _ gl) (hts _ g3) (hts _ gs) (hts _ j1) ⟨j3, j4⟩ (by show d + 1 + 1 ≤ R.frames; omega) hrl hc1 hc2
            (fun w hw a' U hW => word_at hW (hgood w hw).2 (hts w (hgood w hw).1)) List.mem_cons_self (fun a' U hW => word_at hW (good_of_word (hG _ j2)) (hts _ j2))
            hcB hoB hclB rfl rfl rfl (by rw [hc.2.2.1]; exact hl.1) (argsL := (st.take n).reverse.map (x_v (xp_ad u))) (rest := r.map (x_v (xp_ad u)))
            (fun sig hsig => by rw [hlen]; rw [hsig] at j5; exact (Option.some.inj j5).symm) hstk hroom' (by rw [hc.2.1]; exact hd)
            (fun U g' mk hU hW => ⟨x_blind _ _ _ _ (x_pre (as := .ref a :: (st.take n).reverse) hE hS hR U hU hW), x_Bad_calling (x_Bad_moved hS hU hW hB)⟩) T0 hT0 X
        · cases ho
      · cases ho
    · cases ho
  · cases ho
end Site
section Fatal
variable {u : xPi} {y : xM} {p : Program} {l : Launch} {e : Env} {R : Room} {s : State} {m : MethodId} {args : Array Value} {below : List Frame} {meth : Method} {c : Code} {k : Nat}
/-- the store that the model refuses -/
theorem x_fatal {t n a : Nat} {cA : ClassId} {l' : List (Nat × Value)} {i : Int32} {lv : xL} {r : List Value} {h : xH} {nc ns : Nat} (hc : x_Ctx u y p s m args meth c) (hx : c.exceptionTable = #[]) (hB : x_Bad u s)
    (hcl : ∃ comp kc, s.vm.findClass "[B" = some comp ∧ s.vm.classes[comp]? = some kc ∧ ∃ kA, s.vm.classes[cA]? = some kA ∧ kA.kind = .array comp (.array .byte))
    (ht : (xp_ty u)[t]? = some (cA, .array .byte)) (hw : h[a]? = some (.inl (t, n, l'))) (hi : ¬ (i < 0 ∨ n ≤ i.toNatClampNeg)) (hd : decode y.2.1 k = .ok (.aastore, 1)) :
    x_K u y.2.2.1 p l e R s m args below meth c (Refuse.Cert p.tables below) k lv (.ref 1000000202 :: .int i :: .ref a :: r) h nc ns := by
  intro ls H locs hl hR hS T hT X
  obtain ⟨comp, kc, f1, f2, kA, f3, f4⟩ := hcl
  obtain ⟨cv, kv, b1, b2, b3, b4, b5⟩ := hB
  have hw' := x_P1 hR hw (by show (xp_ty u)[_]? ≠ none; rw [ht]; simp)
  rw [x_c_arr ht] at hw'
  have hcell : H[xp_ad u a]? = some (vp_cell cA (n, .inr (.inr (.inr (.inr (x_ref (xp_ad u) l')))))) := hw' 0 _ rfl
  rw [vp_cell_q] at hcell
  have h0 : ¬ i < 0 := fun q => hi (Or.inl q)
  have hlt : i.toNatClampNeg < n := Nat.not_le.mp fun q => hi (Or.inr q)
  have hv : H[xp_ad u 1000000202]? = some cv := by rw [hS.2.1 _ (Array.getElem?_eq_some_iff.mp b1).1 (Nat.not_le.mpr b4)]; exact b1
  have hal : s.vm.Alike T.vm := X.warmed.alike
  obtain ⟨kA', gA, eA⟩ := hal.2.2 _ _ f3
  obtain ⟨kv', gv, -⟩ := hal.2.2 _ _ b3
  obtain ⟨kc', gc, -⟩ := hal.2.2 _ _ f2
  have gk : kA'.kind = .array comp (.array .byte) := by rw [eA]; exact f4
  have gi : T.vm.assignable cv.cls comp = false := by rw [hal.assignable]; exact b5 comp f1
  generalize hcA : arrV cA n (fun j => va_rf (x_ref (xp_ad u) l' j)) = cell at hcell
  have hccls : cell.cls = cA := by rw [← hcA]; rfl
  have hcvm : cell.vm = .none := by rw [← hcA]; rfl
  have hcsz : cell.slots.size = n := by rw [← hcA]; exact arrV_size _ _ _
  have harr : s.isArrayOf cell (.array .byte) := by rw [← hcA]; exact (hc.2.2.2.2.2.2.2.2.2.2.2.2.1.2 t _ ht).1 n _
  have hTc : T.heap[xp_ad u a]? = some cell := by rw [hT]; exact hcell
  have hTv : T.heap[xp_ad u 1000000202]? = some cv := by rw [hT]; exact hv
  have hstep : ∀ target, Steps p.tables e below ((T.setTop (F0 m k ls (r.map (x_v (xp_ad u))))).pushFrame (.throwNew "java/lang/ArrayStoreException" (some kv'.shown) none)) target → Steps p.tables e below (T.setTop (F0 m k ls ((.ref 1000000202 :: .int i :: .ref a :: r : List Value).map (x_v (xp_ad u))))) target := by
    intro target hrest
    have hdg : decode c.code (F0 m k ls ((.ref 1000000202 :: .int i :: .ref a :: r : List Value).map (x_v (xp_ad u)))).pc = .ok (.aastore, 1) := by rw [hc.2.1]; exact hd
    have hexec := hc.1
    rw [← hccls] at gA
    jvm_step X.here [hexec, hdg, aastore.sem, hTc, hTv, hcvm, hcsz, gA, gk, gv, gc, gi, b2, h0, hlt, Nat.not_le.mpr hlt, x_v]
    exact ⟨(State.isArrayOf_alike X.warmed.alike harr).isArray, hrest⟩
  refine ⟨_, hstep _ (Steps.refl _), ?_⟩
  have hfr : ((T.setTop (F0 m k ls (r.map (x_v (xp_ad u))))).pushFrame (.throwNew "java/lang/ArrayStoreException" (some kv'.shown) none)).frames = .throwNew "java/lang/ArrayStoreException" (some kv'.shown) none :: .java (F0 m k ls (r.map (x_v (xp_ad u)))) :: below := by
    rw [State.frames_pushFrame _ (State.cur_lt_of_frames (State.frames_setTop' _ X.here.top)), State.frames_setTop' _ X.here.top, X.tail]
  exact Refuse.cert_raise (Refuse.Misses.of_empty hx) X.method' X.code hc.2.2.2.2.2.2.1 hfr trivial rfl rfl rfl
end Fatal
end XDie
