section XK
variable {u : xPi} {mt : Nat → xM} {y : xM} {pcs : Nat → Nat} {k k1 kt : Nat}
theorem x_c_arr {tys : List (ClassId × FieldType)} {ad : Nat → Nat} {t n : Nat} {l : List (Nat × Value)} {cA : ClassId} {ty : FieldType} (ht : tys[t]? = some (cA, ty)) : x_c tys ad (.inl (t, n, l)) = .inl (cA, x_arr ad ty n l) := by
  simp [x_c, ht]
theorem x_at_cons {l : List (Nat × Value)} {i j : Nat} {v d : Value} : x_at ((i, v) :: l) j d = if j = i then v else x_at l j d := by
  unfold x_at
  by_cases hj : j = i
  · subst hj; simp
  · have : (i == j) = false := by simp; exact fun q => hj q.symm
    simp [List.find?_cons, this, hj]

/-! making arrays -/
def xi_newarray (k1 t b : Nat) : xI := fun lv st h nc ns => match st with
  | .int n :: r => if ¬ n < 0 ∧ n.toNatClampNeg * b ≤ 536870912 ∧ h.length < xT then some (.inl (k1, lv, .ref h.length :: r, h ++ [.inl (t, n.toNatClampNeg, [])], nc + 1, ns + n.toNatClampNeg)) else none
  | _ => none
theorem xo_newarray {t : Nat} {at0 : ArrayType} {cA : ClassId} {ty : FieldType} (ht : (xp_ty u)[t]? = some (cA, ty)) (hty : newarray.typeOf at0 = ty) (hw : Cond.arrayClass ty ∈ xp_G u) (hq : ∀ (cB : ClassId) (n : Nat), vp_cell cB (x_arr (xp_ad u) ty n []) = arrV cB n (fun _ => defaultValue ty)) (hp : ∀ U : State, va_RA U cA ty → U.vm.findClass ("[" ++ ty.toString) = some cA) (hd : decode y.2.1 (pcs k) = .ok (.newarray at0, 2)) (hn : pcs k1 = pcs k + 2) : x_ok u mt y pcs k (xi_newarray k1 t (componentBytes ty)) := by
  intro p l e R s m args below meth c hc hf0 hl0 lv st h nc ns o ho
  unfold xi_newarray at ho
  split at ho
  · rename_i n r
    split at ho
    · rename_i hz
      cases ho
      refine x_go (Nat.le_add_right _ _) (Nat.le_add_right _ _) (fun Q hc1 hc2 hK ls H locs hl hR hS => ?_)
      subst hty
      have hE := hc.2.2.2.2.2.2.2.2
      refine va_newaK hc.1 hc.2.1 (hc.2.2.2.2.1 _ hw) rfl hd rfl hz.1 rfl hz.2.1 hc1 hc2 rfl fun H1 cB e1 z1 o1 hAr hNm => ?_
      have hcB : cB = cA := Option.some.inj (hNm.symm.trans (hp s (hE.2.2.2.2.1.2 t _ ht).2))
      subst hcB
      obtain ⟨hR1, had⟩ := x_R_push (q1 := .inl (t, n.toNatClampNeg, [])) hR hz.2.2 (by rw [x_c_arr ht]; show H1[H.size]? = some (vp_cell _ _); rw [hq]; exact e1) z1 o1
      have hW := hK ls H1 locs hl hR1 (x_S_push hS z1 o1)
      rw [hn] at hW
      simp only [List.map_cons, x_v, had] at hW
      exact hW
    · cases ho
  · cases ho
def xi_anewarray (k1 t : Nat) : xI := fun lv st h nc ns => match st with
  | .int n :: r => if ¬ n < 0 ∧ n.toNatClampNeg * 4 ≤ 536870912 ∧ h.length < xT then some (.inl (k1, lv, .ref h.length :: r, h ++ [.inl (t, n.toNatClampNeg, [])], nc + 1, ns + n.toNatClampNeg)) else none
  | _ => none
theorem xo_anewarray {t idx : Nat} {cA : ClassId} {C : String} (ht : (xp_ty u)[t]? = some (cA, .object C)) (hw : Cond.classLink y.1.cls idx C ∈ xp_G u) (ho1 : C ∈ xp_o u) (hd : decode y.2.1 (pcs k) = .ok (.anewarray idx, 3)) (hn : pcs k1 = pcs k + 3) : x_ok u mt y pcs k (xi_anewarray k1 t) := by
  intro p l e R s m args below meth c hc hf0 hl0 lv st h nc ns o ho
  unfold xi_anewarray at ho
  split at ho
  · rename_i n r
    split at ho
    · rename_i hz
      cases ho
      refine x_go (Nat.le_add_right _ _) (Nat.le_add_right _ _) (fun Q hc1 hc2 hK ls H locs hl hR hS => ?_)
      have hE := hc.2.2.2.2.2.2.2.2
      refine W.anew hc.1 hc.2.1 hc.2.2.2.1 (hc.2.2.2.2.1 _ hw) (va_AO.use (hE.2.2.2.1 _ ho1)) rfl hd rfl hz.1 hz.2.1 hc1 hc2 fun cB kA comp f1 f2 f3 f4 => ?_
      generalize hH1 : H.push ({ cls := cB, slots := Array.replicate n.toNatClampNeg .null, vm := .none } : Cell) = H1
      have z1 : H1.size = H.size + 1 := by rw [← hH1, Array.size_push]
      have e1 : H1[H.size]? = some (arrV cB n.toNatClampNeg (fun _ => .null)) := by rw [← hH1, Array.getElem?_push_size, ← arrV_new]
      have o1 : ∀ q : Nat, q < H.size → H1[q]? = H[q]? := fun q hq => by rw [← hH1, Array.getElem?_push, if_neg (Nat.ne_of_lt hq)]
      obtain ⟨kA', comp', r1, r2, r3, r4⟩ := (hE.2.2.2.2.1.2 t _ ht).2
      have hcB : cB = cA := Option.some.inj (f1.symm.trans r4)
      subst hcB
      obtain ⟨hR1, had⟩ := x_R_push (q1 := .inl (t, n.toNatClampNeg, [])) hR hz.2.2 (by rw [x_c_arr ht]; show H1[H.size]? = some (vp_cell _ _); exact e1) z1 o1
      have hW := hK ls H1 locs hl hR1 (x_S_push hS z1 o1)
      rw [hn] at hW
      simp only [List.map_cons, x_v, had] at hW
      exact hW
    · cases ho
  · cases ho
/-- arrays of arrays -/
theorem xo_anewA {t idx : Nat} {cA : ClassId} {nm : String} {ty0 : FieldType} (ht : (xp_ty u)[t]? = some (cA, .array ty0)) (hnm : nm = (FieldType.array ty0).toString) (hw : Cond.classLink y.1.cls idx nm ∈ xp_G u) (ho1 : Cond.arrayOver (.array ty0) ∈ xp_n u) (hd : decode y.2.1 (pcs k) = .ok (.anewarray idx, 3)) (hn : pcs k1 = pcs k + 3) : x_ok u mt y pcs k (xi_anewarray k1 t) := by
  intro p l e R s m args below meth c hc hf0 hl0 lv st h nc ns o ho
  subst hnm
  unfold xi_anewarray at ho
  split at ho
  · rename_i n r
    split at ho
    · rename_i hz
      cases ho
      refine x_go (Nat.le_add_right _ _) (Nat.le_add_right _ _) (fun Q hc1 hc2 hK ls H locs hl hR hS => ?_)
      have hE := hc.2.2.2.2.2.2.2.2
      refine W.anewA hc.1 hc.2.1 hc.2.2.2.1 (hc.2.2.2.2.1 _ hw) (show (Cond.arrayOver (.array ty0)).before args s = true from (hE.2.2.1 _ ho1).2) rfl hd rfl hz.1 hz.2.1 hc1 hc2 fun cB kA comp f1 f2 f3 f4 => ?_
      generalize hH1 : H.push ({ cls := cB, slots := Array.replicate n.toNatClampNeg .null, vm := .none } : Cell) = H1
      have z1 : H1.size = H.size + 1 := by rw [← hH1, Array.size_push]
      have e1 : H1[H.size]? = some (arrV cB n.toNatClampNeg (fun _ => .null)) := by rw [← hH1, Array.getElem?_push_size, ← arrV_new]
      have o1 : ∀ q : Nat, q < H.size → H1[q]? = H[q]? := fun q hq => by rw [← hH1, Array.getElem?_push, if_neg (Nat.ne_of_lt hq)]
      have r4 : s.vm.findClass ("[" ++ (FieldType.array ty0).toString) = some cA := (hE.2.2.2.2.1.2 t _ ht).2
      have hcB : cB = cA := Option.some.inj (f1.symm.trans r4)
      subst hcB
      obtain ⟨hR1, had⟩ := x_R_push (q1 := .inl (t, n.toNatClampNeg, [])) hR hz.2.2 (by rw [x_c_arr ht]; show H1[H.size]? = some (vp_cell _ _); exact e1) z1 o1
      have hW := hK ls H1 locs hl hR1 (x_S_push hS z1 o1)
      rw [hn] at hW
      simp only [List.map_cons, x_v, had] at hW
      exact hW
    · cases ho
  · cases ho
def xi_alen (k1 t : Nat) : xI := fun lv st h nc ns => match st with
  | .ref a :: r => match h[a]? with
    | some (.inl w) => if w.1 = t then some (.inl (k1, lv, .int (Int32.ofNat w.2.1) :: r, h, nc, ns)) else none
    | _ => none
  | _ => none
theorem x_arr_n {ad : Nat → Nat} {ty : FieldType} {n : Nat} {l : List (Nat × Value)} : (x_arr ad ty n l).1 = n := by cases ty <;> rfl
theorem xo_alen {t : Nat} {cA : ClassId} {ty : FieldType} (ht : (xp_ty u)[t]? = some (cA, ty)) (hd : decode y.2.1 (pcs k) = .ok (.arraylength, 1)) (hn : pcs k1 = pcs k + 1) : x_ok u mt y pcs k (xi_alen k1 t) := by
  intro p l e R s m args below meth c hc hf0 hl0 lv st h nc ns o ho
  unfold xi_alen at ho
  split at ho
  · rename_i a r
    split at ho
    · rename_i w hw
      split at ho
      · rename_i hz
        cases ho
        refine x_go (Nat.le_refl _) (Nat.le_refl _) (fun Q _ _ hK ls H locs hl hR hS => ?_)
        have hE := hc.2.2.2.2.2.2.2.2
        obtain ⟨t', n, l'⟩ := w
        cases hz
        have hw' := x_P1 hR hw (by show (xp_ty u)[_]? ≠ none; rw [ht]; simp)
        rw [x_c_arr ht] at hw'
        refine va_alen (a := xp_ad u a) hc.1 hc.2.1 hE.2.2.2.2.1 hw' 0 _ rfl ht (v := Int32.ofNat n) (by rw [x_arr_n]) hd ?_
        rw [← hn]
        exact hK ls H locs hl hR hS
      · cases ho
    · cases ho
  · cases ho

def xi_iald (k1 t : Nat) : xI := fun lv st h nc ns => match st with
  | .int i :: .ref a :: r => match h[a]? with
    | some (.inl w) => if w.1 = t ∧ ¬ (i < 0 ∨ w.2.1 ≤ i.toNatClampNeg) then some (.inl (k1, lv, .int (x_int w.2.2 i.toNatClampNeg) :: r, h, nc, ns)) else none
    | _ => none
  | _ => none
theorem xo_iald {t : Nat} {cA : ClassId} (ht : (xp_ty u)[t]? = some (cA, .int)) (hd : decode y.2.1 (pcs k) = .ok (.iaload, 1)) (hn : pcs k1 = pcs k + 1) : x_ok u mt y pcs k (xi_iald k1 t) := by
  intro p l e R s m args below meth c hc hf0 hl0 lv st h nc ns o ho
  unfold xi_iald at ho
  split at ho
  · rename_i i a r
    split at ho
    · rename_i w hw
      split at ho
      · rename_i hz
        cases ho
        refine x_go (Nat.le_refl _) (Nat.le_refl _) (fun Q _ _ hK ls H locs hl hR hS => ?_)
        have hE := hc.2.2.2.2.2.2.2.2
        obtain ⟨t', n, l'⟩ := w
        obtain ⟨rfl, hz⟩ := hz
        have hw' := x_P1 hR hw (by show (xp_ty u)[_]? ≠ none; rw [ht]; simp)
        rw [x_c_arr ht] at hw'
        refine va_iald (a := xp_ad u a) (n := n) (f := x_int l') hc.1 hc.2.1 hE.2.2.2.2.1 hw' 0 _ rfl ht hz hd ?_
        rw [← hn]
        exact hK ls H locs hl hR hS
      · cases ho
    · cases ho
  · cases ho
def xi_bald (k1 t : Nat) : xI := fun lv st h nc ns => match st with
  | .int i :: .ref a :: r => match h[a]? with
    | some (.inl w) => if w.1 = t ∧ ¬ (i < 0 ∨ w.2.1 ≤ i.toNatClampNeg) then some (.inl (k1, lv, .int (x_int w.2.2 i.toNatClampNeg) :: r, h, nc, ns)) else none
    | _ => none
  | _ => none
theorem xo_bald {t : Nat} {cA : ClassId} (ht : (xp_ty u)[t]? = some (cA, .byte)) (hd : decode y.2.1 (pcs k) = .ok (.baload, 1)) (hn : pcs k1 = pcs k + 1) : x_ok u mt y pcs k (xi_bald k1 t) := by
  intro p l e R s m args below meth c hc hf0 hl0 lv st h nc ns o ho
  unfold xi_bald at ho
  split at ho
  · rename_i i a r
    split at ho
    · rename_i w hw
      split at ho
      · rename_i hz
        cases ho
        refine x_go (Nat.le_refl _) (Nat.le_refl _) (fun Q _ _ hK ls H locs hl hR hS => ?_)
        have hE := hc.2.2.2.2.2.2.2.2
        obtain ⟨t', n, l'⟩ := w
        obtain ⟨rfl, hz⟩ := hz
        have hw' := x_P1 hR hw (by show (xp_ty u)[_]? ≠ none; rw [ht]; simp)
        rw [x_c_arr ht] at hw'
        refine va_bald (a := xp_ad u a) (n := n) (f := x_int l') hc.1 hc.2.1 hE.2.2.2.2.1 hw' 0 _ rfl ht hz hd ?_
        rw [← hn]
        exact hK ls H locs hl hR hS
      · cases ho
    · cases ho
  · cases ho
def xi_zald (k1 t : Nat) : xI := fun lv st h nc ns => match st with
  | .int i :: .ref a :: r => match h[a]? with
    | some (.inl w) => if w.1 = t ∧ ¬ (i < 0 ∨ w.2.1 ≤ i.toNatClampNeg) then some (.inl (k1, lv, .int (x_int w.2.2 i.toNatClampNeg) :: r, h, nc, ns)) else none
    | _ => none
  | _ => none
theorem xo_zald {t : Nat} {cA : ClassId} (ht : (xp_ty u)[t]? = some (cA, .boolean)) (hd : decode y.2.1 (pcs k) = .ok (.baload, 1)) (hn : pcs k1 = pcs k + 1) : x_ok u mt y pcs k (xi_zald k1 t) := by
  intro p l e R s m args below meth c hc hf0 hl0 lv st h nc ns o ho
  unfold xi_zald at ho
  split at ho
  · rename_i i a r
    split at ho
    · rename_i w hw
      split at ho
      · rename_i hz
        cases ho
        refine x_go (Nat.le_refl _) (Nat.le_refl _) (fun Q _ _ hK ls H locs hl hR hS => ?_)
        have hE := hc.2.2.2.2.2.2.2.2
        obtain ⟨t', n, l'⟩ := w
        obtain ⟨rfl, hz⟩ := hz
        have hw' := x_P1 hR hw (by show (xp_ty u)[_]? ≠ none; rw [ht]; simp)
        rw [x_c_arr ht] at hw'
        refine va_zald (a := xp_ad u a) (n := n) (f := x_int l') hc.1 hc.2.1 hE.2.2.2.2.1 hw' 0 _ rfl ht hz hd ?_
        rw [← hn]
        exact hK ls H locs hl hR hS
      · cases ho
    · cases ho
  · cases ho
def xi_cald (k1 t : Nat) : xI := fun lv st h nc ns => match st with
  | .int i :: .ref a :: r => match h[a]? with
    | some (.inl w) => if w.1 = t ∧ ¬ (i < 0 ∨ w.2.1 ≤ i.toNatClampNeg) then some (.inl (k1, lv, .int (x_int w.2.2 i.toNatClampNeg) :: r, h, nc, ns)) else none
    | _ => none
  | _ => none
theorem xo_cald {t : Nat} {cA : ClassId} (ht : (xp_ty u)[t]? = some (cA, .char)) (hd : decode y.2.1 (pcs k) = .ok (.caload, 1)) (hn : pcs k1 = pcs k + 1) : x_ok u mt y pcs k (xi_cald k1 t) := by
  intro p l e R s m args below meth c hc hf0 hl0 lv st h nc ns o ho
  unfold xi_cald at ho
  split at ho
  · rename_i i a r
    split at ho
    · rename_i w hw
      split at ho
      · rename_i hz
        cases ho
        refine x_go (Nat.le_refl _) (Nat.le_refl _) (fun Q _ _ hK ls H locs hl hR hS => ?_)
        have hE := hc.2.2.2.2.2.2.2.2
        obtain ⟨t', n, l'⟩ := w
        obtain ⟨rfl, hz⟩ := hz
        have hw' := x_P1 hR hw (by show (xp_ty u)[_]? ≠ none; rw [ht]; simp)
        rw [x_c_arr ht] at hw'
        refine va_cald (a := xp_ad u a) (n := n) (f := x_int l') hc.1 hc.2.1 hE.2.2.2.2.1 hw' 0 _ rfl ht hz hd ?_
        rw [← hn]
        exact hK ls H locs hl hR hS
      · cases ho
    · cases ho
  · cases ho
def xi_lald (k1 t : Nat) : xI := fun lv st h nc ns => match st with
  | .int i :: .ref a :: r => match h[a]? with
    | some (.inl w) => if w.1 = t ∧ ¬ (i < 0 ∨ w.2.1 ≤ i.toNatClampNeg) then some (.inl (k1, lv, .long (x_lng w.2.2 i.toNatClampNeg) :: r, h, nc, ns)) else none
    | _ => none
  | _ => none
theorem xo_lald {t : Nat} {cA : ClassId} (ht : (xp_ty u)[t]? = some (cA, .long)) (hd : decode y.2.1 (pcs k) = .ok (.laload, 1)) (hn : pcs k1 = pcs k + 1) : x_ok u mt y pcs k (xi_lald k1 t) := by
  intro p l e R s m args below meth c hc hf0 hl0 lv st h nc ns o ho
  unfold xi_lald at ho
  split at ho
  · rename_i i a r
    split at ho
    · rename_i w hw
      split at ho
      · rename_i hz
        cases ho
        refine x_go (Nat.le_refl _) (Nat.le_refl _) (fun Q _ _ hK ls H locs hl hR hS => ?_)
        have hE := hc.2.2.2.2.2.2.2.2
        obtain ⟨t', n, l'⟩ := w
        obtain ⟨rfl, hz⟩ := hz
        have hw' := x_P1 hR hw (by show (xp_ty u)[_]? ≠ none; rw [ht]; simp)
        rw [x_c_arr ht] at hw'
        refine va_lald (a := xp_ad u a) (n := n) (f := x_lng l') hc.1 hc.2.1 hE.2.2.2.2.1 hw' 0 _ rfl ht hz hd ?_
        rw [← hn]
        exact hK ls H locs hl hR hS
      · cases ho
    · cases ho
  · cases ho
def x_rv (l : List (Nat × Value)) (j : Nat) : Value := match x_at l j .null with
  | .ref a => .ref a
  | _ => .null
theorem x_rv_v {ad : Nat → Nat} {l : List (Nat × Value)} {j : Nat} : x_v ad (x_rv l j) = va_rf (x_ref ad l j) := by
  unfold x_rv x_ref
  cases x_at l j .null <;> rfl
def xi_aald (k1 t : Nat) : xI := fun lv st h nc ns => match st with
  | .int i :: .ref a :: r => match h[a]? with
    | some (.inl w) => if w.1 = t ∧ ¬ (i < 0 ∨ w.2.1 ≤ i.toNatClampNeg) then some (.inl (k1, lv, x_rv w.2.2 i.toNatClampNeg :: r, h, nc, ns)) else none
    | _ => none
  | _ => none
theorem xo_aald {t : Nat} {cA : ClassId} {C : String} (ht : (xp_ty u)[t]? = some (cA, .object C)) (hd : decode y.2.1 (pcs k) = .ok (.aaload, 1)) (hn : pcs k1 = pcs k + 1) : x_ok u mt y pcs k (xi_aald k1 t) := by
  intro p l e R s m args below meth c hc hf0 hl0 lv st h nc ns o ho
  unfold xi_aald at ho
  split at ho
  · rename_i i a r
    split at ho
    · rename_i w hw
      split at ho
      · rename_i hz
        cases ho
        refine x_go (Nat.le_refl _) (Nat.le_refl _) (fun Q _ _ hK ls H locs hl hR hS => ?_)
        have hE := hc.2.2.2.2.2.2.2.2
        obtain ⟨t', n, l'⟩ := w
        obtain ⟨rfl, hz⟩ := hz
        have hw' := x_P1 hR hw (by show (xp_ty u)[_]? ≠ none; rw [ht]; simp)
        rw [x_c_arr ht] at hw'
        refine va_aldq (a := xp_ad u a) (n := n) (f := x_ref (xp_ad u) l') hc.1 hc.2.1 hE.2.2.2.2.1 hw' 0 _ rfl ht hz hd ?_
        rw [← hn]
        have hW := hK ls H locs hl hR hS
        simp only [List.map_cons, x_rv_v] at hW
        exact hW
      · cases ho
    · cases ho
  · cases ho
def xi_iast (k1 t : Nat) : xI := fun lv st h nc ns => match st with
  | .int x :: .int i :: .ref a :: r => match h[a]? with
    | some (.inl w) => if w.1 = t ∧ ¬ (i < 0 ∨ w.2.1 ≤ i.toNatClampNeg) then some (.inl (k1, lv, r, h.set a (.inl (w.1, w.2.1, (i.toNatClampNeg, .int x) :: w.2.2)), nc, ns)) else none
    | _ => none
  | _ => none
theorem xo_iast {t : Nat} {cA : ClassId} (ht : (xp_ty u)[t]? = some (cA, .int)) (hd : decode y.2.1 (pcs k) = .ok (.iastore, 1)) (hn : pcs k1 = pcs k + 1) : x_ok u mt y pcs k (xi_iast k1 t) := by
  intro p l e R s m args below meth c hc hf0 hl0 lv st h nc ns o ho
  unfold xi_iast at ho
  split at ho
  · rename_i x i a r
    split at ho
    · rename_i w hw
      split at ho
      · rename_i hz
        cases ho
        refine x_go (Nat.le_refl _) (Nat.le_refl _) (fun Q _ _ hK ls H locs hl hR hS => ?_)
        have hE := hc.2.2.2.2.2.2.2.2
        obtain ⟨t', n, l'⟩ := w
        obtain ⟨rfl, hz⟩ := hz
        have hw' := x_P1 hR hw (by show (xp_ty u)[_]? ≠ none; rw [ht]; simp)
        rw [x_c_arr ht] at hw'
        refine W.iast hc.1 hc.2.1 (hw' 0 _ rfl) ((hE.2.2.2.2.1.2 _ _ ht).1 n (fun j => .int (x_int l' j))) (fun q => by cases q) (by show ¬ (i < 0 ∨ (arrV _ _ _).slots.size ≤ _); rw [arrV_size]; exact hz) rfl rfl hd fun H1 e z oq => ?_
        have hW := hK ls H1 _ hl (x_R_set hR hw ?_ z oq) (x_S_put (k := i.toNatClampNeg) hS hR hw z oq)
        · rw [hn] at hW
          exact hW
        · rw [x_c_arr ht]
          show H1[xp_ad u a]? = some (vp_cell cA (n, .inl (x_int ((i.toNatClampNeg, .int x) :: l'))))
          rw [e]
          show some ((vp_cell cA (n, .inl (x_int l'))).setSlot _ _) = _
          rw [vp_cell_i, vp_cell_i, arrV_store]
          congr 2
          funext j
          by_cases hj : j = i.toNatClampNeg
          · subst hj
            simp [updV, x_int, x_at_cons]
            try rfl
          · simp [updV, x_int, x_at_cons, hj]
      · cases ho
    · cases ho
  · cases ho
def xi_bast (k1 t : Nat) : xI := fun lv st h nc ns => match st with
  | .int x :: .int i :: .ref a :: r => match h[a]? with
    | some (.inl w) => if w.1 = t ∧ ¬ (i < 0 ∨ w.2.1 ≤ i.toNatClampNeg) then some (.inl (k1, lv, r, h.set a (.inl (w.1, w.2.1, (i.toNatClampNeg, .int x.toInt8.toInt32) :: w.2.2)), nc, ns)) else none
    | _ => none
  | _ => none
theorem xo_bast {t : Nat} {cA : ClassId} (ht : (xp_ty u)[t]? = some (cA, .byte)) (hd : decode y.2.1 (pcs k) = .ok (.bastore, 1)) (hn : pcs k1 = pcs k + 1) : x_ok u mt y pcs k (xi_bast k1 t) := by
  intro p l e R s m args below meth c hc hf0 hl0 lv st h nc ns o ho
  unfold xi_bast at ho
  split at ho
  · rename_i x i a r
    split at ho
    · rename_i w hw
      split at ho
      · rename_i hz
        cases ho
        refine x_go (Nat.le_refl _) (Nat.le_refl _) (fun Q _ _ hK ls H locs hl hR hS => ?_)
        have hE := hc.2.2.2.2.2.2.2.2
        obtain ⟨t', n, l'⟩ := w
        obtain ⟨rfl, hz⟩ := hz
        have hw' := x_P1 hR hw (by show (xp_ty u)[_]? ≠ none; rw [ht]; simp)
        rw [x_c_arr ht] at hw'
        refine W.bast hc.1 hc.2.1 (hw' 0 _ rfl) ((hE.2.2.2.2.1.2 _ _ ht).1 n (fun j => .int (x_int l' j))) (fun q => by cases q) (by show ¬ (i < 0 ∨ (arrV _ _ _).slots.size ≤ _); rw [arrV_size]; exact hz) rfl rfl hd fun H1 e z oq => ?_
        have hW := hK ls H1 _ hl (x_R_set hR hw ?_ z oq) (x_S_put (k := i.toNatClampNeg) hS hR hw z oq)
        · rw [hn] at hW
          exact hW
        · rw [x_c_arr ht]
          show H1[xp_ad u a]? = some (vp_cell cA (n, .inl (x_int ((i.toNatClampNeg, .int x.toInt8.toInt32) :: l'))))
          rw [e]
          show some ((vp_cell cA (n, .inl (x_int l'))).setSlot _ _) = _
          rw [vp_cell_i, vp_cell_i, arrV_store]
          congr 2
          funext j
          by_cases hj : j = i.toNatClampNeg
          · subst hj
            simp [updV, x_int, x_at_cons]
            try rfl
          · simp [updV, x_int, x_at_cons, hj]
      · cases ho
    · cases ho
  · cases ho
def xi_zast (k1 t : Nat) : xI := fun lv st h nc ns => match st with
  | .int x :: .int i :: .ref a :: r => match h[a]? with
    | some (.inl w) => if w.1 = t ∧ ¬ (i < 0 ∨ w.2.1 ≤ i.toNatClampNeg) then some (.inl (k1, lv, r, h.set a (.inl (w.1, w.2.1, (i.toNatClampNeg, .int (x &&& 1)) :: w.2.2)), nc, ns)) else none
    | _ => none
  | _ => none
theorem xo_zast {t : Nat} {cA : ClassId} (ht : (xp_ty u)[t]? = some (cA, .boolean)) (hd : decode y.2.1 (pcs k) = .ok (.bastore, 1)) (hn : pcs k1 = pcs k + 1) : x_ok u mt y pcs k (xi_zast k1 t) := by
  intro p l e R s m args below meth c hc hf0 hl0 lv st h nc ns o ho
  unfold xi_zast at ho
  split at ho
  · rename_i x i a r
    split at ho
    · rename_i w hw
      split at ho
      · rename_i hz
        cases ho
        refine x_go (Nat.le_refl _) (Nat.le_refl _) (fun Q _ _ hK ls H locs hl hR hS => ?_)
        have hE := hc.2.2.2.2.2.2.2.2
        obtain ⟨t', n, l'⟩ := w
        obtain ⟨rfl, hz⟩ := hz
        have hw' := x_P1 hR hw (by show (xp_ty u)[_]? ≠ none; rw [ht]; simp)
        rw [x_c_arr ht] at hw'
        refine W.zast hc.1 hc.2.1 (hw' 0 _ rfl) ((hE.2.2.2.2.1.2 _ _ ht).1 n (fun j => .int (x_int l' j))) (fun q => by cases q) (by show ¬ (i < 0 ∨ (arrV _ _ _).slots.size ≤ _); rw [arrV_size]; exact hz) rfl rfl hd fun H1 e z oq => ?_
        have hW := hK ls H1 _ hl (x_R_set hR hw ?_ z oq) (x_S_put (k := i.toNatClampNeg) hS hR hw z oq)
        · rw [hn] at hW
          exact hW
        · rw [x_c_arr ht]
          show H1[xp_ad u a]? = some (vp_cell cA (n, .inl (x_int ((i.toNatClampNeg, .int (x &&& 1)) :: l'))))
          rw [e]
          show some ((vp_cell cA (n, .inl (x_int l'))).setSlot _ _) = _
          rw [vp_cell_i, vp_cell_i, arrV_store]
          congr 2
          funext j
          by_cases hj : j = i.toNatClampNeg
          · subst hj
            simp [updV, x_int, x_at_cons]
            try rfl
          · simp [updV, x_int, x_at_cons, hj]
      · cases ho
    · cases ho
  · cases ho
def xi_cast (k1 t : Nat) : xI := fun lv st h nc ns => match st with
  | .int x :: .int i :: .ref a :: r => match h[a]? with
    | some (.inl w) => if w.1 = t ∧ ¬ (i < 0 ∨ w.2.1 ≤ i.toNatClampNeg) then some (.inl (k1, lv, r, h.set a (.inl (w.1, w.2.1, (i.toNatClampNeg, .int x.toUInt32.toUInt16.toUInt32.toInt32) :: w.2.2)), nc, ns)) else none
    | _ => none
  | _ => none
theorem xo_cast {t : Nat} {cA : ClassId} (ht : (xp_ty u)[t]? = some (cA, .char)) (hd : decode y.2.1 (pcs k) = .ok (.castore, 1)) (hn : pcs k1 = pcs k + 1) : x_ok u mt y pcs k (xi_cast k1 t) := by
  intro p l e R s m args below meth c hc hf0 hl0 lv st h nc ns o ho
  unfold xi_cast at ho
  split at ho
  · rename_i x i a r
    split at ho
    · rename_i w hw
      split at ho
      · rename_i hz
        cases ho
        refine x_go (Nat.le_refl _) (Nat.le_refl _) (fun Q _ _ hK ls H locs hl hR hS => ?_)
        have hE := hc.2.2.2.2.2.2.2.2
        obtain ⟨t', n, l'⟩ := w
        obtain ⟨rfl, hz⟩ := hz
        have hw' := x_P1 hR hw (by show (xp_ty u)[_]? ≠ none; rw [ht]; simp)
        rw [x_c_arr ht] at hw'
        refine W.cast hc.1 hc.2.1 (hw' 0 _ rfl) ((hE.2.2.2.2.1.2 _ _ ht).1 n (fun j => .int (x_int l' j))) (fun q => by cases q) (by show ¬ (i < 0 ∨ (arrV _ _ _).slots.size ≤ _); rw [arrV_size]; exact hz) rfl rfl hd fun H1 e z oq => ?_
        have hW := hK ls H1 _ hl (x_R_set hR hw ?_ z oq) (x_S_put (k := i.toNatClampNeg) hS hR hw z oq)
        · rw [hn] at hW
          exact hW
        · rw [x_c_arr ht]
          show H1[xp_ad u a]? = some (vp_cell cA (n, .inl (x_int ((i.toNatClampNeg, .int x.toUInt32.toUInt16.toUInt32.toInt32) :: l'))))
          rw [e]
          show some ((vp_cell cA (n, .inl (x_int l'))).setSlot _ _) = _
          rw [vp_cell_i, vp_cell_i, arrV_store]
          congr 2
          funext j
          by_cases hj : j = i.toNatClampNeg
          · subst hj
            simp [updV, x_int, x_at_cons]
            try rfl
          · simp [updV, x_int, x_at_cons, hj]
      · cases ho
    · cases ho
  · cases ho
def xi_last (k1 t : Nat) : xI := fun lv st h nc ns => match st with
  | .long x :: .int i :: .ref a :: r => match h[a]? with
    | some (.inl w) => if w.1 = t ∧ ¬ (i < 0 ∨ w.2.1 ≤ i.toNatClampNeg) then some (.inl (k1, lv, r, h.set a (.inl (w.1, w.2.1, (i.toNatClampNeg, .long x) :: w.2.2)), nc, ns)) else none
    | _ => none
  | _ => none
theorem xo_last {t : Nat} {cA : ClassId} (ht : (xp_ty u)[t]? = some (cA, .long)) (hd : decode y.2.1 (pcs k) = .ok (.lastore, 1)) (hn : pcs k1 = pcs k + 1) : x_ok u mt y pcs k (xi_last k1 t) := by
  intro p l e R s m args below meth c hc hf0 hl0 lv st h nc ns o ho
  unfold xi_last at ho
  split at ho
  · rename_i x i a r
    split at ho
    · rename_i w hw
      split at ho
      · rename_i hz
        cases ho
        refine x_go (Nat.le_refl _) (Nat.le_refl _) (fun Q _ _ hK ls H locs hl hR hS => ?_)
        have hE := hc.2.2.2.2.2.2.2.2
        obtain ⟨t', n, l'⟩ := w
        obtain ⟨rfl, hz⟩ := hz
        have hw' := x_P1 hR hw (by show (xp_ty u)[_]? ≠ none; rw [ht]; simp)
        rw [x_c_arr ht] at hw'
        refine W.last hc.1 hc.2.1 (hw' 0 _ rfl) ((hE.2.2.2.2.1.2 _ _ ht).1 n (fun j => .long (x_lng l' j))) (fun q => by cases q) (by show ¬ (i < 0 ∨ (arrV _ _ _).slots.size ≤ _); rw [arrV_size]; exact hz) rfl rfl hd fun H1 e z oq => ?_
        have hW := hK ls H1 _ hl (x_R_set hR hw ?_ z oq) (x_S_put (k := i.toNatClampNeg) hS hR hw z oq)
        · rw [hn] at hW
          exact hW
        · rw [x_c_arr ht]
          show H1[xp_ad u a]? = some (vp_cell cA (n, .inr (.inl (x_lng ((i.toNatClampNeg, .long x) :: l')))))
          rw [e]
          show some ((vp_cell cA (n, .inr (.inl (x_lng l')))).setSlot _ _) = _
          rw [vp_cell_l, vp_cell_l, arrV_store]
          congr 2
          funext j
          by_cases hj : j = i.toNatClampNeg
          · subst hj
            simp [updV, x_lng, x_at_cons]
          · simp [updV, x_lng, x_at_cons, hj]
      · cases ho
    · cases ho
  · cases ho
end XK
