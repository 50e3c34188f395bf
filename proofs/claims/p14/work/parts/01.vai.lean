/-! A big-step machine over abstract cells (numbered in the order of their making), and what it says of the machine itself. -/
section XA
abbrev xE : Type := (Nat × Nat × List (Nat × Value)) ⊕ (Nat × List Value)
abbrev xH : Type := List xE
abbrev xL : Type := List (Nat × Value)
/-- where to go on: the instruction's number, locals, stack, cells, how many cells and slots were made -/
abbrev xG : Type := Nat × xL × List Value × xH × Nat × Nat
/-- going on; an answer; a call of the method of a number, and where to go on with its answer -/
abbrev xO : Type := xG ⊕ ((Option Value × xH × Nat × Nat) ⊕ (Nat × List Value × xG))
abbrev xI : Type := xL → List Value → xH → Nat → Nat → Option xO
/-- numbers from here on are of cells that were there before -/
def xT : Nat := 1000000000
def x_ad (b0 : Nat) (ex : Nat → Nat) (i : Nat) : Nat := if i < xT then b0 + i else ex i
def x_v (ad : Nat → Nat) (v : Value) : Value := match v with
  | .ref a => .ref (ad a)
  | v => v
def x_l (ad : Nat → Nat) (lv : xL) : xL := lv.map (fun q => (q.1, x_v ad q.2))
def x_at (l : List (Nat × Value)) (j : Nat) (dv : Value) : Value := match l.find? (fun q => q.1 == j) with
  | some q => q.2
  | none => dv
def x_int (l : List (Nat × Value)) (j : Nat) : Int32 := match x_at l j (.int 0) with
  | .int x => x
  | _ => 0
def x_lng (l : List (Nat × Value)) (j : Nat) : Int64 := match x_at l j (.long 0) with
  | .long x => x
  | _ => 0
def x_ref (ad : Nat → Nat) (l : List (Nat × Value)) (j : Nat) : Option Nat := match x_at l j .null with
  | .ref a => some (ad a)
  | _ => none
def x_arr (ad : Nat → Nat) (ty : FieldType) (n : Nat) (l : List (Nat × Value)) : vp_A := match ty with
  | .long => (n, .inr (.inl (x_lng l)))
  | .object _ => (n, .inr (.inr (.inr (.inr (x_ref ad l)))))
  | .array _ => (n, .inr (.inr (.inr (.inr (x_ref ad l)))))
  | _ => (n, .inl (x_int l))
def x_c (tys : List (ClassId × FieldType)) (ad : Nat → Nat) (q : xE) : va_E := match q with
  | .inl (t, n, l) => match tys[t]? with
    | some (cA, ty) => .inl (cA, x_arr ad ty n l)
    | none => .inr (0, [])
  | .inr (ci, fs) => .inr (ci, fs.map (x_v ad))
def x_w (tys : List (ClassId × FieldType)) (ad : Nat → Nat) (h : xH) : va_W := h.mapIdx (fun i q => (ad i, x_c tys ad q))
theorem x_w_at {tys : List (ClassId × FieldType)} {ad : Nat → Nat} {h : xH} {i : Nat} {q : xE} (hi : h[i]? = some q) : (x_w tys ad h)[i]? = some (ad i, x_c tys ad q) := by
  simp [x_w, List.getElem?_mapIdx, hi]
theorem x_w_of {tys : List (ClassId × FieldType)} {ad : Nat → Nat} {h : xH} {i : Nat} {z : Nat × va_E} (hi : (x_w tys ad h)[i]? = some z) : ∃ q, h[i]? = some q ∧ z = (ad i, x_c tys ad q) := by
  simp [x_w, List.getElem?_mapIdx] at hi
  obtain ⟨q, h1, h2⟩ := hi
  exact ⟨q, h1, h2.symm⟩
theorem x_w_push {tys : List (ClassId × FieldType)} {ad : Nat → Nat} {h : xH} {q : xE} : x_w tys ad (h ++ [q]) = x_w tys ad h ++ [(ad h.length, x_c tys ad q)] := by
  simp [x_w, List.mapIdx_append]
theorem x_w_set {tys : List (ClassId × FieldType)} {ad : Nat → Nat} {h : xH} {i : Nat} {q : xE} : x_w tys ad (h.set i q) = (x_w tys ad h).set i (ad i, x_c tys ad q) := by
  apply List.ext_getElem?
  intro j
  simp only [x_w, List.getElem?_mapIdx, List.getElem?_set, List.length_mapIdx]
  by_cases hj : i = j
  · subst hj
    by_cases hl : i < h.length <;> simp [hl]
  · simp [hj]
/-- own cells lie at b0, b0 + 1, .. -/
theorem x_ad_own {b0 : Nat} {ex : Nat → Nat} {i : Nat} (hi : i < xT) : x_ad b0 ex i = b0 + i := by simp [x_ad, hi]
theorem x_D {tys : List (ClassId × FieldType)} {b0 : Nat} {ex : Nat → Nat} {h : xH} (hl : h.length ≤ xT) : va_D (fun q => b0 ≤ q) (x_w tys (x_ad b0 ex) h) := by
  constructor
  · intro i j p q hp hq e
    obtain ⟨p', h1, rfl⟩ := x_w_of hp
    obtain ⟨q', h2, rfl⟩ := x_w_of hq
    have hi := (List.getElem?_eq_some_iff.mp h1).1
    have hj := (List.getElem?_eq_some_iff.mp h2).1
    dsimp only at e
    rw [x_ad_own (by omega), x_ad_own (by omega)] at e
    omega
  · intro k q hq
    obtain ⟨q', h1, rfl⟩ := x_w_of hq
    have hi := (List.getElem?_eq_some_iff.mp h1).1
    show b0 ≤ x_ad b0 ex k
    rw [x_ad_own (by omega)]
    omega
end XA
