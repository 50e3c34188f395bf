section XB
/-- words, classes' numbers, classes, array classes; where own cells begin, where the others are; statics, texts, nest words, array classes over classes -/
abbrev xPi : Type := (List Cond × va_G × List vw_C × List (ClassId × FieldType)) × (Nat × (Nat → Nat)) × (List (String × String × String × Value) × List (String × Nat × String × Nat) × List Cond × List String × List (String × String) × List (Nat × FieldType × Nat × (Nat → Value)) × List (String × String × String × Value × Nat) × List (String × Nat))
def xp_G (u : xPi) : List Cond := u.1.1
def xp_D (u : xPi) : va_G := u.1.2.1
def xp_cl (u : xPi) : List vw_C := u.1.2.2.1
def xp_ty (u : xPi) : List (ClassId × FieldType) := u.1.2.2.2
def xp_b (u : xPi) : Nat := u.2.1.1
def xp_ad (u : xPi) : Nat → Nat := x_ad u.2.1.1 u.2.1.2
def xp_z (u : xPi) : List (String × String × String × Value) := u.2.2.1
def xp_r (u : xPi) : List (String × Nat × String × Nat) := u.2.2.2.1
def xp_n (u : xPi) : List Cond := u.2.2.2.2.1
def xp_o (u : xPi) : List String := u.2.2.2.2.2.1
def xp_x (u : xPi) : List (String × String) := u.2.2.2.2.2.2.1
/-- arrays, fields of objects, and objects that were there before -/
def xp_t (u : xPi) : List (Nat × FieldType × Nat × (Nat → Value)) := u.2.2.2.2.2.2.2.1
def xp_f (u : xPi) : List (String × String × String × Value × Nat) := u.2.2.2.2.2.2.2.2.1
def xp_k (u : xPi) : List (String × Nat) := u.2.2.2.2.2.2.2.2.2
def xp_A (u : xPi) : Nat → Prop := fun q => xp_b u ≤ q
def x_nest (w : Cond) : Bool := match w with
  | .fieldLinkNest .. => true
  | .methodLinkNest .. => true
  | .castable .. => true
  | .declares .. => true
  | .arrayOver (.array _) => true
  | _ => false
theorem x_AOA_eq {args : Array Value} {s : State} {vm' : Vm} (h : s.vm.Alike vm') (ty : FieldType) : (Cond.arrayOver ty).before args (s.setVm vm') = (Cond.arrayOver ty).before args s := by
  simp only [Cond.before, Cond.holds, Cond.value, State.vm_setVm, h.findClass]
  congr 1
  congr 1
  funext comp
  rw [h.findIdx?_eq _ (fun k => rfl)]
  congr 1
  funext c
  exact h.class_map _ (fun k r _ _ => rfl) c
theorem x_AOA_moved {t : FieldType} {u U : State} (hvm : u.vm.Alike U.vm) (h : va_Nw (.arrayOver (.array t)) u) : va_Nw (.arrayOver (.array t)) U := by
  have h1 : (Cond.arrayOver (.array t)).before #[] (u.setVm U.vm) = true := by rw [x_AOA_eq hvm]; exact h
  exact h1
theorem x_nest_warm {w : Cond} {s U : State} (hw : x_nest w = true) (hW : s.WarmedH U.vm) (h : va_Nw w s) : va_Nw w U := by
  cases w with
  | arrayOver ty =>
    cases ty with
    | array t => exact x_AOA_moved hW.alike h
    | _ => simp [x_nest] at hw
  | _ => first | exact va_Nw.warmF hW h | exact va_Nw.warmM hW h | exact va_Nw.warmC hW h | exact va_Nw.warmD hW h | (simp [x_nest] at hw)
theorem x_nest_same {w : Cond} {s U : State} (hw : x_nest w = true) (hW : s.vm = U.vm) (h : va_Nw w s) : va_Nw w U := by
  cases w with
  | arrayOver ty =>
    cases ty with
    | array t => exact x_AOA_moved (by rw [hW]; exact Vm.Alike.refl _) h
    | _ => simp [x_nest] at hw
  | _ => first | exact va_Nw.same rfl hW h | (simp [x_nest] at hw)
def x_Env (u : xPi) (s : State) : Prop :=
  (∀ z ∈ xp_z u, va_Z z.1 z.2.1 z.2.2.1 (x_v (xp_ad u) z.2.2.2) (xp_A u) s s.heap) ∧ (∀ r ∈ xp_r u, vk_R r.1 r.2.1 r.2.2.1 (xp_ad u r.2.2.2) s) ∧ (∀ w ∈ xp_n u, x_nest w = true ∧ va_Nw w s) ∧ (∀ C ∈ xp_o u, va_AO C s) ∧ va_K (xp_D u) (xp_cl u) (xp_ty u) s ∧ xp_b u ≤ s.heap.size ∧ (∀ q ∈ xp_x u, va_Nc q.1 q.2 s) ∧ (∀ q ∈ xp_t u, va_T q.2.1 (xp_ad u q.1) q.2.2.1 q.2.2.2 (xp_A u) s s.heap) ∧ (∀ q ∈ xp_f u, va_OF q.1 q.2.1 q.2.2.1 (x_v (xp_ad u) q.2.2.2.1) (xp_ad u q.2.2.2.2) (xp_A u) s s.heap) ∧ ∀ q ∈ xp_k u, va_O q.1 (xp_ad u q.2) (xp_A u) s s.heap
/-- an array of a class that is none here stands for a cell of which nothing is said -/
def x_vis (u : xPi) (q : xE) : Prop := match q with
  | .inl w => (xp_ty u)[w.1]? ≠ none
  | .inr _ => True
/-- the heap's own cells are just these -/
def x_R (u : xPi) (h : xH) (H : Heap) : Prop := H.size = xp_b u + h.length ∧ h.length ≤ xT ∧ ∀ (i : Nat) (q : xE), h[i]? = some q → x_vis u q → va_at (xp_D u) (xp_cl u) (xp_ad u i, x_c (xp_ty u) (xp_ad u) q) H
theorem x_P1 {u : xPi} {h : xH} {H : Heap} {a : Nat} {q : xE} (hR : x_R u h H) (hw : h[a]? = some q) (hv : x_vis u q) : va_P (xp_D u) (xp_cl u) [(xp_ad u a, x_c (xp_ty u) (xp_ad u) q)] H := by
  intro k z hk
  have hz : k < 1 := (List.getElem?_eq_some_iff.mp hk).1
  rw [show k = 0 by omega] at hk
  cases hk
  exact hR.2.2 a q hw hv
theorem x_Env_moved {u : xPi} {s U : State} {H : Heap} {locs : List Loc} (hS : va_S (xp_A u) s.heap H locs) (hU : U.heap = H) (hW : s.WarmedH U.vm) (h : x_Env u s) : x_Env u U := by
  obtain ⟨h1, h2, h3, h4, h5, h6, h7, h8, h9, hk⟩ := h
  have hq : ∀ a : Nat, a < s.heap.size → ¬ xp_A u a → U.heap[a]? = s.heap[a]? := fun a ha hA => by rw [hU]; exact hS.2.1 a ha hA
  refine ⟨fun z hz => ?_, fun r hr => (h2 r hr).warm hW, fun w hw => ⟨(h3 w hw).1, x_nest_warm (h3 w hw).1 hW (h3 w hw).2⟩, fun C hC => (h4 C hC).moved hW.alike, h5.moved hW.alike, ?_, fun q hq => (h7 q hq).moved hW.alike, fun q z => ((h8 q z).kept hq).moved hW.alike, fun q z => ((h9 q z).kept hq).moved hW.alike, fun q z => ((hk q z).kept hq).moved hW.alike⟩
  · exact ((h1 z hz).kept hq).moved hW.alike
  · rw [hU]
    exact Nat.le_trans h6 hS.1
theorem x_Env_calling {u : xPi} {U : State} {g : JFrame} {mk : MethodId} {a : Array Value} (h : x_Env u U) : x_Env u (U.calling g mk a) := by
  obtain ⟨h1, h2, h3, h4, h5, h6, h7, h8, h9, hk⟩ := h
  exact ⟨fun z hz => (h1 z hz).moved (Vm.Alike.refl U.vm), fun r hr => (h2 r hr).same rfl, fun w hw => ⟨(h3 w hw).1, x_nest_same (s := U) (U := U.calling g mk a) (h3 w hw).1 rfl (h3 w hw).2⟩, fun C hC => (h4 C hC).moved (Vm.Alike.refl U.vm), h5.moved (Vm.Alike.refl U.vm), h6, fun q hq => (h7 q hq).moved (Vm.Alike.refl U.vm), fun q z => (h8 q z).moved (Vm.Alike.refl U.vm), fun q z => (h9 q z).moved (Vm.Alike.refl U.vm), fun q z => (hk q z).moved (Vm.Alike.refl U.vm)⟩
/-- a method: its name, bytes, how many locals, what it answers -/
abbrev xM : Type := MethodName × ByteArray × Nat × Option FieldType
def x_ws (u : xPi) (y : xM) : List Cond := .code y.1 y.2.1 y.2.2.1 y.2.2.2 :: xp_G u
def x_rm (d mc ms : Nat) : Room := { frames := d + 1, cells := mc, slots := ms, locals := 64 * (d + 1) }
def x_Pc (u : xPi) (as : List Value) (h : xH) : Array Value → State → Prop := va_Pc (as.map (x_v (xp_ad u))) (fun U => x_Env u U ∧ x_R u h U.heap)
def x_Qc (u : xPi) (r : Option Value) (h : xH) : Array Value → State → Outcome → State → Prop := fun _ st oc t => (oc = .returned (r.map (x_v (xp_ad u))) ∧ x_R u h t.heap) ∧ va_F (xp_A u) st t
def x_Met (u : xPi) (l : Launch) (y : xM) (d : Nat) (as : List Value) (h : xH) (r : Option Value) (h1 : xH) (mc ms : Nat) : Prop := Met l y.1 (x_ws u y) (x_rm d mc ms) (x_Pc u as h) (x_Qc u r h1) mc ms (xp_A u)
def x_Ctx (u : xPi) (y : xM) (p : Program) (s : State) (m : MethodId) (args : Array Value) (meth : Method) (c : Code) : Prop :=
  p.tables.exec = Jvm.exec ∧ c.code = y.2.1 ∧ c.maxLocals = y.2.2.1 ∧ s.vm.findClass y.1.cls = some m.cls ∧ (∀ w ∈ xp_G u, w.before args s = true) ∧ meth.sig.returnType = y.2.2.2 ∧ meth.locks = false ∧ meth.name = y.1.name ∧ x_Env u s
def x_K (u : xPi) (nL : Nat) (p : Program) (l : Launch) (e : Env) (R : Room) (s : State) (m : MethodId) (args : Array Value) (below : List Frame) (meth : Method) (c : Code) (Q : State → Prop) (pc : Nat) (lv : xL) (st : List Value) (h : xH) (nc ns : Nat) : Prop :=
  ∀ (ls : Array Slot) (H : Heap) (locs : List Loc), lv_has ls nL (x_l (xp_ad u) lv) → x_R u h H → va_S (xp_A u) s.heap H locs → W p l e R s m args below meth c H locs nc ns Q (F0 m pc ls (st.map (x_v (xp_ad u))))
/-- an instruction of a method does what f says -/
def x_ok (u : xPi) (mt : Nat → xM) (y : xM) (pcs : Nat → Nat) (k : Nat) (f : xI) : Prop :=
  ∀ (p : Program) (l : Launch) (e : Env) (R : Room) (s : State) (m : MethodId) (args : Array Value) (below : List Frame) (meth : Method) (c : Code), x_Ctx u y p s m args meth c → 1 ≤ R.frames → 64 ≤ R.locals →
    ∀ (lv : xL) (st : List Value) (h : xH) (nc ns : Nat) (o : xO), f lv st h nc ns = some o →
      (∀ g : xG, o = .inl g → nc ≤ g.2.2.2.2.1 ∧ ns ≤ g.2.2.2.2.2 ∧ ∀ Q : State → Prop, g.2.2.2.2.1 ≤ R.cells → g.2.2.2.2.2 ≤ R.slots →
        x_K u y.2.2.1 p l e R s m args below meth c Q (pcs g.1) g.2.1 g.2.2.1 g.2.2.2.1 g.2.2.2.2.1 g.2.2.2.2.2 → x_K u y.2.2.1 p l e R s m args below meth c Q (pcs k) lv st h nc ns) ∧
      (∀ r : Option Value × xH × Nat × Nat, o = .inr (.inl r) → r.2.2.1 = nc ∧ r.2.2.2 = ns ∧ ∀ Qc : Array Value → State → Outcome → State → Prop,
        (∀ t : State, x_R u r.2.1 t.heap → va_F (xp_A u) s t → Qc args s (.returned (r.1.map (x_v (xp_ad u)))) t) → x_K u y.2.2.1 p l e R s m args below meth c (MQ below Qc args s nc ns (xp_A u)) (pcs k) lv st h nc ns) ∧
      (∀ (j : Nat) (as : List Value) (g : xG), o = .inr (.inr (j, as, g)) → nc ≤ g.2.2.2.2.1 ∧ ns ≤ g.2.2.2.2.2 ∧ ∀ (Q : State → Prop) (d : Nat) (r : Option Value) (h1 : xH) (mc ms : Nat), x_Met u l (mt j) d as g.2.2.2.1 r h1 mc ms → d + 2 ≤ R.frames → 64 * (d + 2) ≤ R.locals → g.2.2.2.2.1 + mc ≤ R.cells → g.2.2.2.2.2 + ms ≤ R.slots →
        x_K u y.2.2.1 p l e R s m args below meth c Q (pcs g.1) g.2.1 (r.toList ++ g.2.2.1) h1 (g.2.2.2.2.1 + mc) (g.2.2.2.2.2 + ms) → x_K u y.2.2.1 p l e R s m args below meth c Q (pcs k) lv st h nc ns)
/-- a program: of each method its face, and the instruction at each place -/
abbrev xPr : Type := Nat → xM × (Nat → xI)
abbrev x_id : Nat → Nat := fun k => k
def x_fit (as : List Value) (n : Nat) : Bool := decide ((lg_sl as).length ≤ n)
abbrev xRes : Type := Option (Option Value × xH × Nat × Nat)
abbrev xRun : Type := Nat → Nat → Nat → xL → List Value → xH → Nat → Nat → xRes
noncomputable def x_step (pr : xPr) (ih : xRun) : xRun := fun d j k lv st h nc ns => match (pr j).2 k lv st h nc ns with
  | none => none
  | some (.inl g) => ih d j g.1 g.2.1 g.2.2.1 g.2.2.2.1 g.2.2.2.2.1 g.2.2.2.2.2
  | some (.inr (.inl r)) => some r
  | some (.inr (.inr z)) => match d with
    | 0 => none
    | d1 + 1 => match x_fit z.2.1 (pr z.1).1.2.2.1 with
      | false => none
      | true => match ih d1 z.1 0 (lv_args 0 z.2.1) [] z.2.2.2.2.2.1 0 0 with
        | none => none
        | some r => ih (d1 + 1) j z.2.2.1 z.2.2.2.1 (r.1.toList ++ z.2.2.2.2.1) r.2.1 (z.2.2.2.2.2.2.1 + r.2.2.1) (z.2.2.2.2.2.2.2 + r.2.2.2)
noncomputable def x_run (pr : xPr) (n : Nat) : xRun := Nat.rec (motive := fun _ => xRun) (fun _ _ _ _ _ _ _ _ => none) (fun _ ih => x_step pr ih) n
theorem x_run_0 {pr : xPr} {d j k : Nat} {lv : xL} {st : List Value} {h : xH} {nc ns : Nat} : x_run pr 0 d j k lv st h nc ns = none := rfl
theorem x_run_s {pr : xPr} {n : Nat} : x_run pr (n + 1) = x_step pr (x_run pr n) := rfl
/-- a method's instructions, by halves of its places -/
def x_if (n : Nat) (f g : Nat → xI) : Nat → xI := fun k => cond (Nat.blt k n) (f k) (g k)
def x_no : xI := fun _ _ _ _ _ => none
def x_lf (n : Nat) (f : xI) : Nat → xI := fun k => cond (Nat.beq k n) f x_no
theorem x_if_ok {u : xPi} {mt : Nat → xM} {y : xM} {n : Nat} {f g : Nat → xI} (hf : ∀ k, x_ok u mt y x_id k (f k)) (hg : ∀ k, x_ok u mt y x_id k (g k)) : ∀ k, x_ok u mt y x_id k (x_if n f g k) := by
  intro k
  unfold x_if
  cases Nat.blt k n
  · exact hg k
  · exact hf k
theorem x_lf_ok {u : xPi} {mt : Nat → xM} {y : xM} {n : Nat} {f : xI} (hf : x_ok u mt y x_id n f) : ∀ k, x_ok u mt y x_id k (x_lf n f k) := by
  intro k
  unfold x_lf
  cases h : Nat.beq k n
  · intro p l e R s m args below meth c hc hf0 hl0 lv st h nc ns o ho
    cases ho
  · have e : k = n := Nat.eq_of_beq_eq_true h
    rw [e]
    exact hf
end XB
