section XPic
def rv : Option Nat → Value
  | none => .null
  | some a => .ref a
theorem rv_cat (o : Option Nat) : (rv o).category = 1 := by cases o <;> rfl
theorem rv_inj {a b : Option Nat} (h : rv a = rv b) : a = b := by
  cases a <;> cases b <;> simp_all [rv]
/-- fields by their places: whole numbers, references, longs -/
abbrev Rec : Type := (Nat → Int32) × (Nat → Option Nat) × (Nat → Int64)
abbrev Rec.i (r : Rec) (k : Nat) : Int32 := r.1 k
abbrev Rec.r (r : Rec) (k : Nat) : Option Nat := r.2.1 k
abbrev Rec.l (r : Rec) (k : Nat) : Int64 := r.2.2 k
def Rec.si (r : Rec) (k : Nat) (x : Int32) : Rec := (fun j => cond (Nat.beq j k) x (r.1 j), r.2.1, r.2.2)
def Rec.sr (r : Rec) (k : Nat) (x : Option Nat) : Rec := (r.1, fun j => cond (Nat.beq j k) x (r.2.1 j), r.2.2)
def Rec.sl (r : Rec) (k : Nat) (x : Int64) : Rec := (r.1, r.2.1, fun j => cond (Nat.beq j k) x (r.2.2 j))
def r0 : Rec := (fun _ => 0, fun _ => none, fun _ => 0)
/-- the fields of a record in their order, by the number of its kind -/
def x_F (ci : Nat) (r : Rec) : List Value := (cond (Nat.blt ci 18) (cond (Nat.blt ci 7) (cond (Nat.blt ci 3) (cond (Nat.blt ci 1) [rv (r.r 0), .int (r.i 1), rv (r.r 2), rv (r.r 3), rv (r.r 4), rv (r.r 5), rv (r.r 6), rv (r.r 7), rv (r.r 8), rv (r.r 9), rv (r.r 10), rv (r.r 11), rv (r.r 12), rv (r.r 13), .int (r.i 14), .int (r.i 15), .int (r.i 16), .int (r.i 17), .int (r.i 18), .int (r.i 19), .int (r.i 20)]
  (cond (Nat.blt ci 2) [rv (r.r 0), .int (r.i 1), .int (r.i 2), rv (r.r 3), .int (r.i 4), .int (r.i 5), .int (r.i 6), .int (r.i 7)]
  [rv (r.r 0), .int (r.i 1), .int (r.i 2)]))
  (cond (Nat.blt ci 5) (cond (Nat.blt ci 4) [rv (r.r 0), rv (r.r 1)]
  [rv (r.r 0), .int (r.i 1), .int (r.i 2), .int (r.i 3)])
  (cond (Nat.blt ci 6) [rv (r.r 0), .int (r.i 1), .int (r.i 2), .int (r.i 3)]
  [rv (r.r 0), .int (r.i 1), .int (r.i 2), .int (r.i 3), .int (r.i 4), .int (r.i 5), rv (r.r 6), .int (r.i 7), .int (r.i 8), rv (r.r 9), .int (r.i 10), .int (r.i 11), .int (r.i 12), .int (r.i 13)])))
  (cond (Nat.blt ci 13) (cond (Nat.blt ci 8) [rv (r.r 0), .int (r.i 1), .int (r.i 2), .int (r.i 3), .int (r.i 4), .int (r.i 5), .int (r.i 6), .int (r.i 7), .int (r.i 8), .int (r.i 9), rv (r.r 10), .int (r.i 11), rv (r.r 12), .int (r.i 13), rv (r.r 14), .int (r.i 15), .int (r.i 16), rv (r.r 17), rv (r.r 18), rv (r.r 19)]
  (cond (Nat.blt ci 9) [rv (r.r 0), .int (r.i 1), .int (r.i 2), .int (r.i 3)]
  [rv (r.r 0), .int (r.i 1), rv (r.r 2), rv (r.r 3)]))
  (cond (Nat.blt ci 15) (cond (Nat.blt ci 14) [rv (r.r 0), .int (r.i 1), rv (r.r 2), .int (r.i 3), .int (r.i 4), .int (r.i 5), .int (r.i 6), .int (r.i 7), rv (r.r 8), rv (r.r 9), rv (r.r 10), .int (r.i 11), rv (r.r 12), .int (r.i 13), .int (r.i 14)]
  [rv (r.r 0), rv (r.r 1), rv (r.r 2), rv (r.r 3), .int (r.i 4), .int (r.i 5), .int (r.i 6)])
  (cond (Nat.blt ci 16) [rv (r.r 0), rv (r.r 1), rv (r.r 2), .int (r.i 3), .int (r.i 4), .int (r.i 5), .int (r.i 6)]
  [rv (r.r 0), rv (r.r 1), .int (r.i 2), .int (r.i 3), .int (r.i 4), .long (r.l 5), rv (r.r 6), rv (r.r 7), .int (r.i 8), rv (r.r 9), .int (r.i 10), .int (r.i 11), .int (r.i 12), .int (r.i 13), .int (r.i 14), .int (r.i 15), rv (r.r 16), .int (r.i 17), .int (r.i 18)]))))
  (cond (Nat.blt ci 26) (cond (Nat.blt ci 22) (cond (Nat.blt ci 20) [.int (r.i 0)]
  (cond (Nat.blt ci 21) [rv (r.r 0), rv (r.r 1), rv (r.r 2), rv (r.r 3), rv (r.r 4), .int (r.i 5), .int (r.i 6), .int (r.i 7), .int (r.i 8), .int (r.i 9), .int (r.i 10), .int (r.i 11), .int (r.i 12), .int (r.i 13), rv (r.r 14), .int (r.i 15), rv (r.r 16), .int (r.i 17), rv (r.r 18), rv (r.r 19), rv (r.r 20), rv (r.r 21), .int (r.i 22), .int (r.i 23), .int (r.i 24), .int (r.i 25), rv (r.r 26), .int (r.i 27), .int (r.i 28), rv (r.r 29), .int (r.i 30), .int (r.i 31), .int (r.i 32), .int (r.i 33), .int (r.i 34), rv (r.r 35), .int (r.i 36), .int (r.i 37), rv (r.r 38), rv (r.r 39), rv (r.r 40), rv (r.r 41), rv (r.r 42), rv (r.r 43), rv (r.r 44), .int (r.i 45)]
  [.int (r.i 0), .int (r.i 1), .int (r.i 2), .int (r.i 3), .int (r.i 4), .int (r.i 5), .int (r.i 6), .int (r.i 7), .int (r.i 8), .int (r.i 9), rv (r.r 10), rv (r.r 11), rv (r.r 12)]))
  (cond (Nat.blt ci 24) (cond (Nat.blt ci 23) [rv (r.r 0), .int (r.i 1), .int (r.i 2), .int (r.i 3), .int (r.i 4), .int (r.i 5), .int (r.i 6), .int (r.i 7), .int (r.i 8), .int (r.i 9), .int (r.i 10), .int (r.i 11), .int (r.i 12), .int (r.i 13), rv (r.r 14), rv (r.r 15), rv (r.r 16), rv (r.r 17), rv (r.r 18)]
  [.int (r.i 0), rv (r.r 1), rv (r.r 2), rv (r.r 3), rv (r.r 4)])
  (cond (Nat.blt ci 25) [rv (r.r 0), rv (r.r 1), rv (r.r 2)]
  [rv (r.r 0), rv (r.r 1), rv (r.r 2), .long (r.l 3), rv (r.r 4), .int (r.i 5), .int (r.i 6), .int (r.i 7), .int (r.i 8), .int (r.i 9)])))
  (cond (Nat.blt ci 30) (cond (Nat.blt ci 28) (cond (Nat.blt ci 27) [.int (r.i 0), rv (r.r 1), rv (r.r 2), .int (r.i 3)]
  [.int (r.i 0), rv (r.r 1), rv (r.r 2), rv (r.r 3), rv (r.r 4), rv (r.r 5)])
  (cond (Nat.blt ci 29) [rv (r.r 0), .int (r.i 1), .int (r.i 2), .int (r.i 3), .int (r.i 4), .int (r.i 5), rv (r.r 6)]
  [rv (r.r 0), .int (r.i 1), .int (r.i 2), .int (r.i 3), .int (r.i 4), rv (r.r 5), .int (r.i 6), .int (r.i 7), .int (r.i 8), rv (r.r 9), rv (r.r 10), rv (r.r 11), .int (r.i 12), rv (r.r 13)]))
  (cond (Nat.blt ci 32) (cond (Nat.blt ci 31) [rv (r.r 0), rv (r.r 1), rv (r.r 2), rv (r.r 3)]
  [rv (r.r 0), rv (r.r 1), rv (r.r 2), .int (r.i 3), .int (r.i 4), .int (r.i 5)])
  (cond (Nat.blt ci 33) [rv (r.r 0), rv (r.r 1), .int (r.i 2), .int (r.i 3), .int (r.i 4), .long (r.l 5), rv (r.r 6), rv (r.r 7), .int (r.i 8)]
  [rv (r.r 0), .int (r.i 1), rv (r.r 2)])))))
/-- cells and slots made, whose a cell is (0: nobody's; 1 .. 6, 10 .. 15: what it is; 100 + b: hidden behind b); records, arrays of numbers, arrays of references, lists with their room, texts, builders, boxed numbers, bare objects -/
abbrev Pic : Type := (Nat × Nat × (Nat → Nat)) × (Nat → Nat → Option Rec) × (Nat → Nat → Option (List Int32)) × (Nat → Option (Nat × List (Option Nat))) × (Nat → Option (Nat × List (Option Nat))) × (Nat → Option (List Int32)) × (Nat → Option (Nat × List Int32)) × (Nat → Option Int32) × (Nat → Option Nat)
abbrev Pic.nx (C : Pic) : Nat := C.1.1
abbrev Pic.sl (C : Pic) : Nat := C.1.2.1
abbrev Pic.kd (C : Pic) : Nat → Nat := C.1.2.2
abbrev Pic.ob (C : Pic) : Nat → Nat → Option Rec := C.2.1
abbrev Pic.ar (C : Pic) : Nat → Nat → Option (List Int32) := C.2.2.1
abbrev Pic.rf (C : Pic) : Nat → Option (Nat × List (Option Nat)) := C.2.2.2.1
abbrev Pic.al (C : Pic) : Nat → Option (Nat × List (Option Nat)) := C.2.2.2.2.1
abbrev Pic.st (C : Pic) : Nat → Option (List Int32) := C.2.2.2.2.2.1
abbrev Pic.sb (C : Pic) : Nat → Option (Nat × List Int32) := C.2.2.2.2.2.2.1
abbrev Pic.ig (C : Pic) : Nat → Option Int32 := C.2.2.2.2.2.2.2.1
abbrev Pic.ot (C : Pic) : Nat → Option Nat := C.2.2.2.2.2.2.2.2
def Pic.mk (C : Pic) (n s : Nat) (k : Nat → Nat) : Pic := ((n, s, k), C.2)
def Pic.sob (C : Pic) (f : Nat → Nat → Option Rec) : Pic := (C.1, f, C.2.2)
def Pic.sar (C : Pic) (f : Nat → Nat → Option (List Int32)) : Pic := (C.1, C.2.1, f, C.2.2.2)
def Pic.srf (C : Pic) (f : Nat → Option (Nat × List (Option Nat))) : Pic := (C.1, C.2.1, C.2.2.1, f, C.2.2.2.2)
def Pic.sal (C : Pic) (f : Nat → Option (Nat × List (Option Nat))) : Pic := (C.1, C.2.1, C.2.2.1, C.2.2.2.1, f, C.2.2.2.2.2)
def Pic.sst (C : Pic) (f : Nat → Option (List Int32)) : Pic := (C.1, C.2.1, C.2.2.1, C.2.2.2.1, C.2.2.2.2.1, f, C.2.2.2.2.2.2)
def Pic.ssb (C : Pic) (f : Nat → Option (Nat × List Int32)) : Pic := (C.1, C.2.1, C.2.2.1, C.2.2.2.1, C.2.2.2.2.1, C.2.2.2.2.2.1, f, C.2.2.2.2.2.2.2)
def Pic.sig (C : Pic) (f : Nat → Option Int32) : Pic := (C.1, C.2.1, C.2.2.1, C.2.2.2.1, C.2.2.2.2.1, C.2.2.2.2.2.1, C.2.2.2.2.2.2.1, f, C.2.2.2.2.2.2.2.2)
def Pic.sot (C : Pic) (f : Nat → Option Nat) : Pic := (C.1, C.2.1, C.2.2.1, C.2.2.2.1, C.2.2.2.2.1, C.2.2.2.2.2.1, C.2.2.2.2.2.2.1, C.2.2.2.2.2.2.2.1, f)
def xup {α : Type} (f : Nat → Option α) (a : Nat) (v : α) : Nat → Option α := fun b => if b = a then some v else f b
def xdel {α : Type} (f : Nat → Option α) (a : Nat) : Nat → Option α := fun b => if b = a then none else f b
def xupK (f : Nat → Nat) (a v : Nat) : Nat → Nat := fun b => if b = a then v else f b
def xup2 {α : Type} (f : Nat → Nat → Option α) (i a : Nat) (v : α) : Nat → Nat → Option α := fun j => cond (Nat.beq j i) (xup (f j) a v) (f j)
theorem xup_eq {α : Type} {f : Nat → Option α} {a : Nat} {v : α} : xup f a v a = some v := by simp [xup]
theorem xup_ne {α : Type} {f : Nat → Option α} {a b : Nat} {v : α} (h : b ≠ a) : xup f a v b = f b := by simp [xup, h]
theorem xupK_eq {f : Nat → Nat} {a v : Nat} : xupK f a v a = v := by simp [xupK]
theorem xupK_ne {f : Nat → Nat} {a b v : Nat} (h : b ≠ a) : xupK f a v b = f b := by simp [xupK, h]
theorem xup2_ne {α : Type} {f : Nat → Nat → Option α} {i j a b : Nat} {v : α} (h : b ≠ a) : xup2 f i a v j b = f j b := by
  unfold xup2
  cases Nat.beq j i
  · rfl
  · exact xup_ne h
theorem xup2_eq {α : Type} {f : Nat → Nat → Option α} {i j a : Nat} {v w : α} (h : xup2 f i a v j a = some w) : (j = i ∧ w = v) ∨ (j ≠ i ∧ f j a = some w) := by
  unfold xup2 at h
  cases e : Nat.beq j i with
  | true =>
    rw [e] at h
    dsimp only [cond] at h
    rw [xup_eq] at h
    exact Or.inl ⟨Nat.eq_of_beq_eq_true e, (Option.some.inj h).symm⟩
  | false =>
    rw [e] at h
    exact Or.inr ⟨Nat.ne_of_beq_eq_false e, h⟩
def byOf (n : Nat) (A : List (Nat × Value)) : List Int32 := (List.range n).map (x_int A)
def rvO (v : Value) : Option Nat := match v with
  | .ref a => some a
  | _ => none
def rfOf (n : Nat) (A : List (Nat × Value)) : List (Option Nat) := (List.range n).map (fun i => rvO (x_rv A i))
/-- what a new object of the library is before its constructor -/
def x_rawD (ci : Nat) : List Value := cond (Nat.beq ci 2) xD_2 (cond (Nat.beq ci 8) xD_8 (cond (Nat.beq ci 5) xD_5 (cond (Nat.beq ci 18) xD_18 [])))
/-- the value of String's own empty text -/
def x_ev : Nat := 1000001100
def x_ix : Nat → Option Int32 := fun _ => none
/-- what the picture says of the cell a -/
def x_ok1 (h : xH) (C : Pic) (a : Nat) : Prop :=
  (∀ ci r, C.ob ci a = some r → C.kd a = 1 ∧ h[a]? = some (.inr (ci, x_F ci r))) ∧
  (∀ t l, C.ar t a = some l → (t = 0 ∧ xT ≤ a ∧ x_xb a = some l) ∨ (C.kd a = 10 + t ∧ t < 5 ∧ ∃ A, h[a]? = some (.inl (t, l.length, A)) ∧ byOf l.length A = l)) ∧
  (∀ q, C.rf a = some q → C.kd a = 15 ∧ ∃ A, h[a]? = some (.inl (q.1, q.2.length, A)) ∧ rfOf q.2.length A = q.2) ∧
  (∀ q, C.al a = some q → C.kd a = 2 ∧ q.2.length ≤ q.1 ∧ ∃ e m, h[a]? = some (.inr (2, [rv e, .int (Int32.ofNat q.2.length), .int m])) ∧ ((e = some xT ∧ q.1 = 0) ∨ ∃ v A, e = some v ∧ C.kd v = 100 + a ∧ h[v]? = some (.inl (8, q.1, A)) ∧ 0 < q.1 ∧ ∀ i (hi : i < q.2.length), x_rv A i = rv q.2[i])) ∧
  (∀ l, C.st a = some l → (xT ≤ a ∧ x_tx a = some l) ∨ (C.kd a = 3 ∧ ∃ v, h[a]? = some (.inr (8, [.ref v, .int 0, .int 0, .int 0])) ∧ ((v = x_ev ∧ l = []) ∨ (C.kd v = 100 + a ∧ ∃ A, h[v]? = some (.inl (0, l.length, A)) ∧ byOf l.length A = l)))) ∧
  (∀ q, C.sb a = some q → C.kd a = 4 ∧ q.2.length ≤ q.1 ∧ ∃ v m A, h[a]? = some (.inr (5, [.ref v, .int 0, .int m, .int (Int32.ofNat q.2.length)])) ∧ C.kd v = 100 + a ∧ h[v]? = some (.inl (0, q.1, A)) ∧ ∀ i (hi : i < q.2.length), x_int A i = q.2[i]) ∧
  (∀ x, C.ig a = some x → (xT ≤ a ∧ x_ix a = some x) ∨ (C.kd a = 5 ∧ h[a]? = some (.inr (18, [.int x])))) ∧
  (∀ ci, C.ot a = some ci → C.kd a = 6 ∧ h[a]? = some (.inr (ci, x_rawD ci))) ∧
  (C.kd a ≠ 0 → a < h.length)
def x_half (h : xH) (C : Pic) : Prop := ∀ a, x_ok1 h C a
/-- the heap as the two pictures tell it -/
def Rep (h : xH) (C F : Pic) : Prop := x_half h C ∧ x_half h F ∧ (∀ a, C.kd a = 0 ∨ F.kd a = 0) ∧ h.length = C.nx ∧ h.length ≤ xT
def RepN (h : xH) (C F C0 : Pic) (nc ns : Nat) : Prop := Rep h C F ∧ C0.nx + nc = C.nx ∧ C0.sl + ns = C.sl
theorem RepN.z {h : xH} {C F C0 : Pic} {nc ns : Nat} (h1 : RepN h C F C0 nc ns) : RepN h C F C 0 0 := ⟨h1.1, rfl, rfl⟩
theorem RepN.tr {h h' : xH} {C F C0 C1 : Pic} {nc ns mc ms : Nat} (h1 : RepN h C F C0 nc ns) (h2 : RepN h' C1 F C mc ms) : RepN h' C1 F C0 (nc + mc) (ns + ms) := by
  obtain ⟨-, a1, a2⟩ := h1
  obtain ⟨b0, b1, b2⟩ := h2
  exact ⟨b0, by omega, by omega⟩
/-- two pictures say the same of a cell -/
def x_eq1 (C C' : Pic) (b : Nat) : Prop := (∀ i, C'.ob i b = C.ob i b) ∧ (∀ t, C'.ar t b = C.ar t b) ∧ C'.rf b = C.rf b ∧ C'.al b = C.al b ∧ C'.st b = C.st b ∧ C'.sb b = C.sb b ∧ C'.ig b = C.ig b ∧ C'.ot b = C.ot b
theorem x_ok1.keep {h h' : xH} {C C' : Pic} {b : Nat} (hb : x_ok1 h C b) (he : x_eq1 C C' b) (hk : ∀ x, x = b ∨ C.kd x = 100 + b → C'.kd x = C.kd x) (hh : ∀ x, (x = b ∨ C.kd x = 100 + b) → C.kd x ≠ 0 → h'[x]? = h[x]?) (hl : h.length ≤ h'.length) : x_ok1 h' C' b := by
  obtain ⟨o1, o2, o3, o4, o5, o6, o7, o8, o9⟩ := hb
  obtain ⟨e1, e2, e3, e4, e5, e6, e7, e8⟩ := he
  have kb := hk b (Or.inl rfl)
  have hb : C.kd b ≠ 0 → h'[b]? = h[b]? := hh b (Or.inl rfl)
  refine ⟨?_, ?_, ?_, ?_, ?_, ?_, ?_, ?_, ?_⟩
  · intro ci r hr
    rw [e1] at hr
    obtain ⟨q1, q2⟩ := o1 ci r hr
    exact ⟨kb.trans q1, (hb (by omega)).trans q2⟩
  · intro t l hr
    rw [e2] at hr
    rcases o2 t l hr with q | ⟨q1, q2, A, q3, q4⟩
    · exact Or.inl q
    · exact Or.inr ⟨kb.trans q1, q2, A, (hb (by omega)).trans q3, q4⟩
  · intro q hr
    rw [e3] at hr
    obtain ⟨q1, A, q3, q4⟩ := o3 q hr
    exact ⟨kb.trans q1, A, (hb (by omega)).trans q3, q4⟩
  · intro q hr
    rw [e4] at hr
    obtain ⟨q1, q2, e, m, q3, q4⟩ := o4 q hr
    refine ⟨kb.trans q1, q2, e, m, (hb (by omega)).trans q3, ?_⟩
    rcases q4 with q4 | ⟨v, A, r1, r2, r3, r4⟩
    · exact Or.inl q4
    · exact Or.inr ⟨v, A, r1, (hk v (Or.inr r2)).trans r2, (hh v (Or.inr r2) (by omega)).trans r3, r4⟩
  · intro l hr
    rw [e5] at hr
    rcases o5 l hr with q | ⟨q1, v, q2, q3⟩
    · exact Or.inl q
    · refine Or.inr ⟨kb.trans q1, v, (hb (by omega)).trans q2, ?_⟩
      rcases q3 with q3 | ⟨r1, A, r2, r3⟩
      · exact Or.inl q3
      · exact Or.inr ⟨(hk v (Or.inr r1)).trans r1, A, (hh v (Or.inr r1) (by omega)).trans r2, r3⟩
  · intro q hr
    rw [e6] at hr
    obtain ⟨q1, q2, v, m, A, q3, r1, r2, r3⟩ := o6 q hr
    exact ⟨kb.trans q1, q2, v, m, A, (hb (by omega)).trans q3, (hk v (Or.inr r1)).trans r1, (hh v (Or.inr r1) (by omega)).trans r2, r3⟩
  · intro x hr
    rw [e7] at hr
    rcases o7 x hr with q | ⟨q1, q2⟩
    · exact Or.inl q
    · exact Or.inr ⟨kb.trans q1, (hb (by omega)).trans q2⟩
  · intro ci hr
    rw [e8] at hr
    obtain ⟨q1, q2⟩ := o8 ci hr
    exact ⟨kb.trans q1, (hb (by omega)).trans q2⟩
  · intro hz
    rw [kb] at hz
    exact Nat.lt_of_lt_of_le (o9 hz) hl
theorem x_eq1.rf {C : Pic} {b : Nat} : x_eq1 C C b := ⟨fun _ => rfl, fun _ => rfl, rfl, rfl, rfl, rfl, rfl, rfl⟩
/-- the other picture stays where only cells that aren't its own change -/
theorem x_half.keep {h h' : xH} {F : Pic} (hF : x_half h F) (hh : ∀ x, F.kd x ≠ 0 → h'[x]? = h[x]?) (hl : h.length ≤ h'.length) : x_half h' F := fun b => (hF b).keep x_eq1.rf (fun _ _ => rfl) (fun x _ hx => hh x hx) hl
/-- what isn't said of a cell of another kind -/
theorem x_ok1.only {h : xH} {C : Pic} {a n : Nat} (ho : x_ok1 h C a) (hl : h.length ≤ xT) (hk : C.kd a = n) (hn : n ≠ 0) : (n ≠ 1 → ∀ i, C.ob i a = none) ∧ (∀ t, n ≠ 10 + t → C.ar t a = none) ∧ (n ≠ 15 → C.rf a = none) ∧ (n ≠ 2 → C.al a = none) ∧ (n ≠ 3 → C.st a = none) ∧ (n ≠ 4 → C.sb a = none) ∧ (n ≠ 5 → C.ig a = none) ∧ (n ≠ 6 → C.ot a = none) := by
  obtain ⟨o1, o2, o3, o4, o5, o6, o7, o8, o9⟩ := ho
  have hlt : a < xT := by have := o9 (by omega); omega
  refine ⟨fun h1 i => ?_, fun t h1 => ?_, fun h1 => ?_, fun h1 => ?_, fun h1 => ?_, fun h1 => ?_, fun h1 => ?_, fun h1 => ?_⟩
  · cases e : C.ob i a with
    | none => rfl
    | some r => exact absurd (o1 i r e).1 (by omega)
  · cases e : C.ar t a with
    | none => rfl
    | some r =>
      rcases o2 t r e with q | q
      · omega
      · exact absurd q.1 (by omega)
  · cases e : C.rf a with
    | none => rfl
    | some r => exact absurd (o3 r e).1 (by omega)
  · cases e : C.al a with
    | none => rfl
    | some r => exact absurd (o4 r e).1 (by omega)
  · cases e : C.st a with
    | none => rfl
    | some r =>
      rcases o5 r e with q | q
      · omega
      · exact absurd q.1 (by omega)
  · cases e : C.sb a with
    | none => rfl
    | some r => exact absurd (o6 r e).1 (by omega)
  · cases e : C.ig a with
    | none => rfl
    | some r =>
      rcases o7 r e with q | q
      · omega
      · exact absurd q.1 (by omega)
  · cases e : C.ot a with
    | none => rfl
    | some r => exact absurd (o8 r e).1 (by omega)
/-- of a cell that isn't made yet, or is nobody's, nothing is said -/
theorem x_ok1.none {h : xH} {C : Pic} {a : Nat} (ho : x_ok1 h C a) (hk : C.kd a = 0) (hl : a < xT) : (∀ i, C.ob i a = none) ∧ (∀ t, C.ar t a = none) ∧ C.rf a = none ∧ C.al a = none ∧ C.st a = none ∧ C.sb a = none ∧ C.ig a = none ∧ C.ot a = none := by
  obtain ⟨o1, o2, o3, o4, o5, o6, o7, o8, o9⟩ := ho
  refine ⟨fun i => ?_, fun t => ?_, ?_, ?_, ?_, ?_, ?_, ?_⟩
  · cases e : C.ob i a with
    | none => rfl
    | some r => exact absurd (o1 i r e).1 (by omega)
  · cases e : C.ar t a with
    | none => rfl
    | some r =>
      rcases o2 t r e with q | q
      · omega
      · exact absurd q.1 (by omega)
  · cases e : C.rf a with
    | none => rfl
    | some r => exact absurd (o3 r e).1 (by omega)
  · cases e : C.al a with
    | none => rfl
    | some r => exact absurd (o4 r e).1 (by omega)
  · cases e : C.st a with
    | none => rfl
    | some r =>
      rcases o5 r e with q | q
      · omega
      · exact absurd q.1 (by omega)
  · cases e : C.sb a with
    | none => rfl
    | some r => exact absurd (o6 r e).1 (by omega)
  · cases e : C.ig a with
    | none => rfl
    | some r =>
      rcases o7 r e with q | q
      · omega
      · exact absurd q.1 (by omega)
  · cases e : C.ot a with
    | none => rfl
    | some r => exact absurd (o8 r e).1 (by omega)
theorem Rep.sep {h : xH} {C F : Pic} {a : Nat} (hR : Rep h C F) (ha : C.kd a ≠ 0) : ∀ x, F.kd x ≠ 0 → x ≠ a := by
  rintro x hx rfl
  rcases hR.2.2.1 x with h | h <;> contradiction
/-- a change of one cell of one's own -/
theorem Rep.chg {h : xH} {C C' F : Pic} {a : Nat} {c : xE} (hR : Rep h C F) (ha : C.kd a ≠ 0) (hk : C'.kd = C.kd) (hn : C'.nx = C.nx) (he : ∀ b, b ≠ a → x_eq1 C C' b) (hv : ∀ b, C.kd a = 100 + b → x_ok1 (h.set a c) C' b) (hs : x_ok1 (h.set a c) C' a) : Rep (h.set a c) C' F := by
  have hsep := hR.sep ha
  obtain ⟨h1, h2, h3, h4, h5⟩ := hR
  refine ⟨fun b => ?_, h2.keep (fun x hx => List.getElem?_set_ne (Ne.symm (hsep x hx))) (by simp), fun b => by rw [hk]; exact h3 b, by rw [List.length_set, hn]; exact h4, by rw [List.length_set]; exact h5⟩
  by_cases e : b = a
  · rw [e]; exact hs
  · by_cases e2 : C.kd a = 100 + b
    · exact hv b e2
    · refine (h1 b).keep (he b e) (fun _ _ => by rw [hk]) (fun x hx _ => List.getElem?_set_ne ?_) (by simp)
      rintro rfl
      rcases hx with hx | hx
      · exact e hx.symm
      · exact e2 hx
/-- a new cell -/
theorem Rep.new {h : xH} {C C' F : Pic} {c : xE} (n s : Nat) (hR : Rep h C F) (hl : C.nx < xT) (hn : C'.nx = C.nx + 1) (hk : C'.kd = xupK C.kd C.nx n) (he : ∀ b, b ≠ C.nx → x_eq1 C C' b) (hs : x_ok1 (h ++ [c]) C' C.nx) : Rep (h ++ [c]) C' F := by
  obtain ⟨h1, h2, h3, h4, h5⟩ := hR
  have fresh : ∀ G : Pic, x_half h G → G.kd C.nx = 0 := fun G hG => by
    cases e : G.kd C.nx with
    | zero => rfl
    | succ m => exact absurd ((hG C.nx).2.2.2.2.2.2.2.2 (by omega)) (by omega)
  refine ⟨fun b => ?_, h2.keep (fun x hx => List.getElem?_append_left ((h2 x).2.2.2.2.2.2.2.2 hx)) (by simp), fun b => ?_, by rw [List.length_append, hn, h4]; rfl, by rw [List.length_append]; show h.length + 1 ≤ xT; omega⟩
  · by_cases e : b = C.nx
    · rw [e]; exact hs
    · refine (h1 b).keep (he b e) (fun x hx => ?_) (fun x _ hx => List.getElem?_append_left ((h1 x).2.2.2.2.2.2.2.2 hx)) (by simp)
      rw [hk, xupK_ne]
      rintro rfl
      rcases hx with hx | hx
      · exact e hx.symm
      · rw [fresh C h1] at hx
        omega
  · rw [hk]
    by_cases e : b = C.nx
    · rw [e]; exact Or.inr (fresh F h2)
    · rw [xupK_ne e]; exact h3 b
/-- what stands at a reference -/
def x_pt (h : xH) (o : Option Nat) (c : xE) : Prop := ∃ a, o = some a ∧ h[a]? = some c
theorem ob {α β : Type} {x : Option α} {f : α → Option β} {y : β} (h : x.bind f = some y) : ∃ a, x = some a ∧ f a = some y := Option.bind_eq_some_iff.mp h
theorem x_int_c {A : List (Nat × Value)} {i k : Nat} {x : Int32} : x_int ((i, .int x) :: A) k = if k = i then x else x_int A k := by
  unfold x_int x_at
  by_cases e : k = i
  · simp [e]
  · have : ¬ i = k := fun h => e h.symm
    simp [List.find?_cons, this, e]
theorem byOf_len {n : Nat} {A : List (Nat × Value)} : (byOf n A).length = n := by simp [byOf]
theorem byOf_set {n i : Nat} {A : List (Nat × Value)} {x : Int32} : byOf n ((i, .int x) :: A) = (byOf n A).set i x := by
  apply List.ext_getElem?
  intro k
  rw [List.getElem?_set]
  unfold byOf
  by_cases e : i = k
  · subst e
    by_cases hk : i < n
    · simp [hk, x_int_c]
    · simp [hk]
  · have e' : ¬ k = i := fun h => e h.symm
    by_cases hk : k < n
    · simp [hk, x_int_c, e, e']
    · simp [hk, e]
theorem byOf_nil {n : Nat} : byOf n [] = List.replicate n 0 := by
  unfold byOf
  apply List.ext_getElem?
  intro k
  by_cases hk : k < n
  · simp [hk, x_int, x_at]
  · simp [hk]
theorem byOf_get {n i : Nat} {A : List (Nat × Value)} (hi : i < n) : (byOf n A)[i]? = some (x_int A i) := by simp [byOf, hi]
theorem rvO_rv {o : Option Nat} : rvO (rv o) = o := by cases o <;> rfl
theorem x_rv_rv {A : List (Nat × Value)} {i : Nat} : x_rv A i = rv (rvO (x_rv A i)) := by
  unfold x_rv
  cases x_at A i .null <;> rfl
theorem x_rv_c {A : List (Nat × Value)} {i k : Nat} {o : Option Nat} : x_rv ((i, rv o) :: A) k = if k = i then rv o else x_rv A k := by
  unfold x_rv x_at
  by_cases e : k = i
  · subst e
    cases o <;> simp [rv]
  · have : ¬ i = k := fun h => e h.symm
    simp [List.find?_cons, this, e]
theorem rfOf_len {n : Nat} {A : List (Nat × Value)} : (rfOf n A).length = n := by simp [rfOf]
theorem rfOf_set {n i : Nat} {A : List (Nat × Value)} {x : Option Nat} : rfOf n ((i, rv x) :: A) = (rfOf n A).set i x := by
  apply List.ext_getElem?
  intro k
  rw [List.getElem?_set]
  unfold rfOf
  by_cases e : i = k
  · subst e
    by_cases hk : i < n
    · simp [hk, x_rv_c, rvO_rv]
    · simp [hk]
  · have e' : ¬ k = i := fun h => e h.symm
    by_cases hk : k < n
    · simp [hk, x_rv_c, e, e']
    · simp [hk, e]
theorem rfOf_nil {n : Nat} : rfOf n [] = List.replicate n none := by
  unfold rfOf
  apply List.ext_getElem?
  intro k
  by_cases hk : k < n
  · simp [hk, x_rv, x_at, rvO]
  · simp [hk]
theorem rfOf_get {n i : Nat} {A : List (Nat × Value)} (hi : i < n) : ∃ o, (rfOf n A)[i]? = some o ∧ x_rv A i = rv o := by
  refine ⟨rvO (x_rv A i), ?_, x_rv_rv⟩
  simp [rfOf, hi]
end XPic
