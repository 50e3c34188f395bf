section XUp
/-- a walk within one method, over its calls, to a place -/
noncomputable def x_up1 (pr : xPr) (cd : Nat → xI) (fl d : Nat) (g : xG) : Option xG := match cd g.1 g.2.1 g.2.2.1 g.2.2.2.1 g.2.2.2.2.1 g.2.2.2.2.2 with
  | some (.inl g') => some g'
  | some (.inr (.inr z)) => match x_fit z.2.1 (pr z.1).1.2.2.1 with
    | false => none
    | true => match x_run pr fl d z.1 0 (lv_args 0 z.2.1) [] z.2.2.2.2.2.1 0 0 with
      | none => none
      | some r => some (z.2.2.1, z.2.2.2.1, r.1.toList ++ z.2.2.2.2.1, r.2.1, z.2.2.2.2.2.2.1 + r.2.2.1, z.2.2.2.2.2.2.2 + r.2.2.2)
  | _ => none
noncomputable def x_upto (pr : xPr) (cd : Nat → xI) (fl d stop : Nat) (n : Nat) : xG → Option xG := Nat.rec (motive := fun _ => xG → Option xG) (fun _ => none)
  (fun _ ih g => match Nat.beq g.1 stop with
    | true => some g
    | false => match x_up1 pr cd fl d g with
      | some g' => ih g'
      | none => none) n
theorem x_upto_s {pr : xPr} {cd : Nat → xI} {fl d stop n : Nat} {g : xG} : x_upto pr cd fl d stop (n + 1) g = (match Nat.beq g.1 stop with
    | true => some g
    | false => match x_up1 pr cd fl d g with
      | some g' => x_upto pr cd fl d stop n g'
      | none => none) := rfl
section Ctx
variable {u : xPi} {pr : xPr} {y : xM} {cd : Nat → xI} {p : Program} {l : Launch} {e : Env} {R : Room} {s : State} {m : MethodId} {args : Array Value} {below : List Frame} {meth : Method} {c : Code} {Q : State → Prop}
theorem x_up1_ok (hpr : ∀ (j k : Nat), x_ok u (fun j => (pr j).1) (pr j).1 x_id k ((pr j).2 k)) (hpl : ∀ j, plainName (pr j).1.1.cls = true ∨ (pr j).2 0 = x_no) (hok : ∀ k, x_ok u (fun j => (pr j).1) y x_id k (cd k)) (hc : x_Ctx u y p s m args meth c) {fl d : Nat} (hf : d + 2 ≤ R.frames) (hl : 64 * (d + 2) ≤ R.locals) {g g' : xG} (h : x_up1 pr cd fl d g = some g') :
    g.2.2.2.2.1 ≤ g'.2.2.2.2.1 ∧ g.2.2.2.2.2 ≤ g'.2.2.2.2.2 ∧ (g'.2.2.2.2.1 ≤ R.cells → g'.2.2.2.2.2 ≤ R.slots → x_KG u y.2.2.1 p l e R s m args below meth c Q g' → x_KG u y.2.2.1 p l e R s m args below meth c Q g) := by
  have hf0 : 1 ≤ R.frames := by omega
  have hl0 : 64 ≤ R.locals := by omega
  unfold x_up1 at h
  split at h
  · rename_i g'' hg
    cases h
    obtain ⟨a1, a2, a3⟩ := (hok g.1 p l e R s m args below meth c hc hf0 hl0 _ _ _ _ _ _ hg).1 _ rfl
    exact ⟨a1, a2, fun b1 b2 hK => a3 Q b1 b2 hK⟩
  · rename_i z hg
    obtain ⟨j, as, gz⟩ := z
    split at h
    · cases h
    · rename_i hfit
      split at h
      · cases h
      · rename_i r hr
        cases h
        obtain ⟨r, h1, mc, ms⟩ := r
        obtain ⟨a1, a2, a3⟩ := (hok g.1 p l e R s m args below meth c hc hf0 hl0 _ _ _ _ _ _ hg).2.2 _ _ _ rfl
        dsimp only at hfit hr a1 a2 a3 ⊢
        exact ⟨Nat.le_trans a1 (Nat.le_add_right _ _), Nat.le_trans a2 (Nat.le_add_right _ _), fun b1 b2 hK => a3 Q d r h1 mc ms (x_met hpr hpl hfit hr) hf hl b1 b2 hK⟩
  · cases h
theorem x_upto_ok (hpr : ∀ (j k : Nat), x_ok u (fun j => (pr j).1) (pr j).1 x_id k ((pr j).2 k)) (hpl : ∀ j, plainName (pr j).1.1.cls = true ∨ (pr j).2 0 = x_no) (hok : ∀ k, x_ok u (fun j => (pr j).1) y x_id k (cd k)) (hc : x_Ctx u y p s m args meth c) {fl d stop : Nat} (hf : d + 2 ≤ R.frames) (hl : 64 * (d + 2) ≤ R.locals) : ∀ (n : Nat) {g g' : xG}, x_upto pr cd fl d stop n g = some g' →
    g.2.2.2.2.1 ≤ g'.2.2.2.2.1 ∧ g.2.2.2.2.2 ≤ g'.2.2.2.2.2 ∧ (g'.2.2.2.2.1 ≤ R.cells → g'.2.2.2.2.2 ≤ R.slots → x_KG u y.2.2.1 p l e R s m args below meth c Q g' → x_KG u y.2.2.1 p l e R s m args below meth c Q g) := by
  intro n
  induction n with
  | zero => intro g g' h; cases h
  | succ n ih =>
    intro g g' h
    rw [x_upto_s] at h
    split at h
    · cases h
      exact ⟨Nat.le_refl _, Nat.le_refl _, fun _ _ hK => hK⟩
    · split at h
      · rename_i g1 hg
        obtain ⟨a1, a2, a3⟩ := x_up1_ok (l := l) (e := e) (below := below) (Q := Q) hpr hpl hok hc hf hl hg
        obtain ⟨b1, b2, b3⟩ := ih h
        exact ⟨Nat.le_trans a1 b1, Nat.le_trans a2 b2, fun c1 c2 hK => a3 (Nat.le_trans b1 c1) (Nat.le_trans b2 c2) (b3 c1 c2 hK)⟩
      · cases h
end Ctx
end XUp
