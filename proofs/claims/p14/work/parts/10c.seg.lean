section XSeg
/-! walks by parts: runs of instructions that go on within one method, one call, one answer -/
def x_go1 (cd : Nat → xI) (g : xG) : Option xG := match cd g.1 g.2.1 g.2.2.1 g.2.2.2.1 g.2.2.2.2.1 g.2.2.2.2.2 with
  | some (.inl g') => some g'
  | _ => none
def x_seg (cd : Nat → xI) : Nat → xG → Option xG
  | 0, g => some g
  | n + 1, g => match x_go1 cd g with
    | some g' => x_seg cd n g'
    | none => none
section Ctx
variable {u : xPi} {mt : Nat → xM} {y : xM} {cd : Nat → xI} {p : Program} {l : Launch} {e : Env} {R : Room} {s : State} {m : MethodId} {args : Array Value} {below : List Frame} {meth : Method} {c : Code} {Q : State → Prop}
/-- the judgement at a place, its parts together -/
abbrev x_KG (u : xPi) (nL : Nat) (p : Program) (l : Launch) (e : Env) (R : Room) (s : State) (m : MethodId) (args : Array Value) (below : List Frame) (meth : Method) (c : Code) (Q : State → Prop) (g : xG) : Prop := x_K u nL p l e R s m args below meth c Q g.1 g.2.1 g.2.2.1 g.2.2.2.1 g.2.2.2.2.1 g.2.2.2.2.2
theorem x_go1_ok (hok : ∀ k, x_ok u mt y x_id k (cd k)) (hc : x_Ctx u y p s m args meth c) (hf0 : 1 ≤ R.frames) (hl0 : 64 ≤ R.locals) {g g' : xG} (h : x_go1 cd g = some g') :
    g.2.2.2.2.1 ≤ g'.2.2.2.2.1 ∧ g.2.2.2.2.2 ≤ g'.2.2.2.2.2 ∧ (g'.2.2.2.2.1 ≤ R.cells → g'.2.2.2.2.2 ≤ R.slots → x_KG u y.2.2.1 p l e R s m args below meth c Q g' → x_KG u y.2.2.1 p l e R s m args below meth c Q g) := by
  unfold x_go1 at h
  split at h
  · rename_i g'' hg
    cases h
    obtain ⟨a1, a2, a3⟩ := (hok g.1 p l e R s m args below meth c hc hf0 hl0 _ _ _ _ _ _ hg).1 _ rfl
    exact ⟨a1, a2, fun b1 b2 hK => a3 Q b1 b2 hK⟩
  · cases h
theorem x_seg_ok (hok : ∀ k, x_ok u mt y x_id k (cd k)) (hc : x_Ctx u y p s m args meth c) (hf0 : 1 ≤ R.frames) (hl0 : 64 ≤ R.locals) : ∀ (n : Nat) {g g' : xG}, x_seg cd n g = some g' →
    g.2.2.2.2.1 ≤ g'.2.2.2.2.1 ∧ g.2.2.2.2.2 ≤ g'.2.2.2.2.2 ∧ (g'.2.2.2.2.1 ≤ R.cells → g'.2.2.2.2.2 ≤ R.slots → x_KG u y.2.2.1 p l e R s m args below meth c Q g' → x_KG u y.2.2.1 p l e R s m args below meth c Q g) := by
  intro n
  induction n with
  | zero =>
    intro g g' h
    cases h
    exact ⟨Nat.le_refl _, Nat.le_refl _, fun _ _ hK => hK⟩
  | succ n ih =>
    intro g g' h
    unfold x_seg at h
    split at h
    · rename_i g1 hg
      obtain ⟨a1, a2, a3⟩ := x_go1_ok (l := l) (e := e) (below := below) (Q := Q) hok hc hf0 hl0 hg
      obtain ⟨b1, b2, b3⟩ := ih h
      exact ⟨Nat.le_trans a1 b1, Nat.le_trans a2 b2, fun c1 c2 hK => a3 (Nat.le_trans b1 c1) (Nat.le_trans b2 c2) (b3 c1 c2 hK)⟩
    · cases h
/-- a call whose callee keeps a contract -/
theorem x_call_ok (hok : ∀ k, x_ok u mt y x_id k (cd k)) (hc : x_Ctx u y p s m args meth c) (hf0 : 1 ≤ R.frames) (hl0 : 64 ≤ R.locals) {g g' : xG} {j : Nat} {as : List Value} (hg : cd g.1 g.2.1 g.2.2.1 g.2.2.2.1 g.2.2.2.2.1 g.2.2.2.2.2 = some (.inr (.inr (j, as, g'))))
    {d : Nat} {r : Option Value} {h1 : xH} {mc ms : Nat} (hM : x_Met u l (mt j) d as g'.2.2.2.1 r h1 mc ms) (h2 : d + 2 ≤ R.frames) (h3 : 64 * (d + 2) ≤ R.locals) (h4 : g'.2.2.2.2.1 + mc ≤ R.cells) (h5 : g'.2.2.2.2.2 + ms ≤ R.slots)
    (hK : x_KG u y.2.2.1 p l e R s m args below meth c Q (g'.1, g'.2.1, r.toList ++ g'.2.2.1, h1, g'.2.2.2.2.1 + mc, g'.2.2.2.2.2 + ms)) : x_KG u y.2.2.1 p l e R s m args below meth c Q g :=
  ((hok g.1 p l e R s m args below meth c hc hf0 hl0 _ _ _ _ _ _ hg).2.2 _ _ _ rfl).2.2 Q d r h1 mc ms hM h2 h3 h4 h5 hK
/-- an answer -/
theorem x_ret_ok (hok : ∀ k, x_ok u mt y x_id k (cd k)) (hc : x_Ctx u y p s m args meth c) (hf0 : 1 ≤ R.frames) (hl0 : 64 ≤ R.locals) {g : xG} {r : Option Value} {h1 : xH} {nc ns : Nat} (hg : cd g.1 g.2.1 g.2.2.1 g.2.2.2.1 g.2.2.2.2.1 g.2.2.2.2.2 = some (.inr (.inl (r, h1, nc, ns)))) {Qc : Array Value → State → Outcome → State → Prop}
    (hq : ∀ t : State, x_R u h1 t.heap → va_F (xp_A u) s t → Qc args s (.returned (r.map (x_v (xp_ad u)))) t) : x_KG u y.2.2.1 p l e R s m args below meth c (MQ below Qc args s g.2.2.2.2.1 g.2.2.2.2.2 (xp_A u)) g :=
  ((hok g.1 p l e R s m args below meth c hc hf0 hl0 _ _ _ _ _ _ hg).2.1 _ rfl).2.2 Qc hq
/-- more room may be said to be used -/
theorem x_KG_widen {nL : Nat} {g : xG} {a b : Nat} (h1 : g.2.2.2.2.1 ≤ a) (h2 : g.2.2.2.2.2 ≤ b) (hK : x_KG u nL p l e R s m args below meth c Q (g.1, g.2.1, g.2.2.1, g.2.2.2.1, a, b)) : x_KG u nL p l e R s m args below meth c Q g :=
  fun ls H locs hl hR hS => W.widen h1 h2 (hK ls H locs hl hR hS)
end Ctx
end XSeg
