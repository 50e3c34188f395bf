section XRu
def x_scl : List Int32 := [1, 0, 0, 0, 0, 1380729177, 2305, 8, 0, 16777216, 1280, 8, 0, 167774976, (-838795264), 8, 0, 12, 655391, 8, 0, 196608, 26214400, 8, 0, (-838795264), 5, 8, 0, 655400, 13500672, 8, 0, 16777216, 67113984, 8, 0, 181272832, 16777216, 8, 0, 184562176, 167772160, 8, 0, 0, 76238, 5, 2, 0, 0, 0]
def x_scr (j : Nat) : Int32 := x_scl.getD j 0
/-- so many instructions of one activation, calls counted as one -/
noncomputable def x_upN (pr : xPr) (cd : Nat → xI) (fl d : Nat) (n : Nat) : xG → Option xG := Nat.rec (motive := fun _ => xG → Option xG) (fun g => some g)
  (fun _ ih g => match x_up1 pr cd fl d g with
    | some g' => ih g'
    | none => none) n
theorem x_upN_s {pr : xPr} {cd : Nat → xI} {fl d n : Nat} {g : xG} : x_upN pr cd fl d (n + 1) g = (match x_up1 pr cd fl d g with
    | some g' => x_upN pr cd fl d n g'
    | none => none) := rfl
theorem x_upN_ok {u : xPi} {pr : xPr} {y : xM} {cd : Nat → xI} {p : Program} {l : Launch} {e : Env} {R : Room} {s : State} {m : MethodId} {args : Array Value} {below : List Frame} {meth : Method} {c : Code} {Q : State → Prop}
    (hpr : ∀ (j k : Nat), x_ok u (fun j => (pr j).1) (pr j).1 x_id k ((pr j).2 k)) (hpl : ∀ j, plainName (pr j).1.1.cls = true ∨ (pr j).2 0 = x_no) (hok : ∀ k, x_ok u (fun j => (pr j).1) y x_id k (cd k)) (hc : x_Ctx u y p s m args meth c) {fl d : Nat} (hf : d + 2 ≤ R.frames) (hl : 64 * (d + 2) ≤ R.locals) : ∀ (n : Nat) {g g' : xG}, x_upN pr cd fl d n g = some g' →
    g.2.2.2.2.1 ≤ g'.2.2.2.2.1 ∧ g.2.2.2.2.2 ≤ g'.2.2.2.2.2 ∧ (g'.2.2.2.2.1 ≤ R.cells → g'.2.2.2.2.2 ≤ R.slots → x_KG u y.2.2.1 p l e R s m args below meth c Q g' → x_KG u y.2.2.1 p l e R s m args below meth c Q g) := by
  intro n
  induction n with
  | zero =>
    intro g g' h
    cases h
    exact ⟨Nat.le_refl _, Nat.le_refl _, fun _ _ hK => hK⟩
  | succ n ih =>
    intro g g' h
    rw [x_upN_s] at h
    split at h
    · rename_i g1 hg
      obtain ⟨a1, a2, a3⟩ := x_up1_ok (l := l) (e := e) (below := below) (Q := Q) hpr hpl hok hc hf hl hg
      obtain ⟨b1, b2, b3⟩ := ih h
      exact ⟨Nat.le_trans a1 b1, Nat.le_trans a2 b2, fun c1 c2 hK => a3 (Nat.le_trans b1 c1) (Nat.le_trans b2 c2) (b3 c1 c2 hK)⟩
    · cases h
def x_eqE (a b : xE) : Bool := match a, b with
  | .inl x, .inl z => decide (x = z)
  | .inr x, .inr z => decide (x = z)
  | _, _ => false
theorem x_eqE_eq {a b : xE} (h : x_eqE a b = true) : a = b := by
  cases a <;> cases b <;> simp_all [x_eqE]
def x_eqH : xH → xH → Bool
  | [], [] => true
  | a :: r, b :: t => x_eqE a b && x_eqH r t
  | _, _ => false
theorem x_eqH_eq : ∀ {a b : xH}, x_eqH a b = true → a = b := by
  intro a
  induction a with
  | nil => intro b h; cases b <;> simp_all [x_eqH]
  | cons x r ih =>
    intro b h
    cases b with
    | nil => simp [x_eqH] at h
    | cons y t =>
      simp only [x_eqH, Bool.and_eq_true] at h
      rw [x_eqE_eq h.1, ih h.2]
def x_eqG (r : Option xG) (g : xG) : Bool := match r with
  | some w => decide (w.1 = g.1) && (decide (w.2.1 = g.2.1) && (decide (w.2.2.1 = g.2.2.1) && (x_eqH w.2.2.2.1 g.2.2.2.1 && (decide (w.2.2.2.2.1 = g.2.2.2.2.1) && decide (w.2.2.2.2.2 = g.2.2.2.2.2)))))
  | none => false
theorem x_eqG_eq {r : Option xG} {g : xG} (q : x_eqG r g = true) : r = some g := by
  cases r with
  | none => simp [x_eqG] at q
  | some w =>
    obtain ⟨a, b, c, d, e, f⟩ := w
    obtain ⟨a', b', c', d', e', f'⟩ := g
    simp only [x_eqG, Bool.and_eq_true, decide_eq_true_eq] at q
    obtain ⟨q1, q2, q3, q4, q5, q6⟩ := q
    rw [q1, q2, q3, x_eqH_eq q4, q5, q6]
end XRu
