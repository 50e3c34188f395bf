section XX
section St
variable {p : Program} {l : Launch} {e : Env} {R : Room} {s : State} {m : MethodId} {args : Array Value} {below : List Frame} {meth : Method} {c : Code} {H : Heap} {locs : List Loc} {cells slots : Nat} {Q : State → Prop}
variable {cc : ByteArray} {pc : Nat} {ls : Array Slot} {rest : List Value}
theorem x_ldcwS1 {T : State} (X : Stand p l e R s m args below meth c T locs cells slots) (hexec : p.tables.exec = Jvm.exec) {own text : String} {index : Nat} {a : Addr} (hown : s.vm.findClass own = some m.cls)
    (hconst : (Cond.stringRef own index text).before args s = true) (hev : (Term.string own index).eval args s none [] s = some (.ref a)) {g : JFrame} (hg : g.method = m) (hdg : decode c.code g.pc = .ok (.ldc_w index, 3)) :
    ∀ target, Steps p.tables e below (T.setTop { g with pc := g.pc + 3, stack := .ref a :: g.stack }) target → Steps p.tables e below (T.setTop g) target := by
  obtain ⟨k, cf, i, a', hk, hcf, hcp, -, hr, hev'⟩ := Cond.stringRef_spec hown hconst
  cases hev.symm.trans hev'
  obtain ⟨k', hk', he⟩ := X.warmed.alike.2.2 _ _ hk
  have hr' : k'.resolved[index]? = some (some (.string a)) := by
    rcases X.warmed.entry hk hk' index with h | ⟨h, -⟩
    · rw [h]; exact hr
    · rw [hr] at h; cases h
  intro target hrest
  subst hg
  jvm_step X.here [hexec, hdg, ldc_w.wp_string (e := e) (s := T) (f := g) X.here.top hk' (by rw [he]; exact hcf) hcp hr']
  exact hrest
theorem x_ldcwS2 (hexec : p.tables.exec = Jvm.exec) (hb : c.code = cc) {own tx : String} {index q : Nat} (hown : s.vm.findClass own = some m.cls) (hZ : vk_R own index tx q s) (hdg : decode cc pc = .ok (.ldc_w index, 3))
    (k : W p l e R s m args below meth c H locs cells slots Q (F0 m (pc + 3) ls (.ref q :: rest))) : W p l e R s m args below meth c H locs cells slots Q (F0 m pc ls rest) := by
  intro T hT X
  obtain ⟨t, a1, b1⟩ := k T hT X
  exact ⟨t, x_ldcwS1 X hexec hown (text := tx) (a := q) hZ.1 hZ.2 (g := F0 m pc ls rest) rfl (by rw [hb]; exact hdg) t a1, b1⟩
end St
variable {u : xPi} {mt : Nat → xM} {y : xM} {pcs : Nat → Nat} {k k1 kt : Nat}
theorem xo_ldcwS {idx a : Nat} {tx : String} (hr : (y.1.cls, idx, tx, a) ∈ xp_r u) (hd : decode y.2.1 (pcs k) = .ok (.ldc_w idx, 3)) (hn : pcs k1 = pcs k + 3) : x_ok u mt y pcs k (xi_val k1 (.ref a)) := by
  intro p l e R s m args below meth c hc hf0 hl0 lv st h nc ns o ho
  cases ho
  refine x_go (Nat.le_refl _) (Nat.le_refl _) (fun Q _ _ hK ls H locs hl1 hR hS => ?_)
  refine x_ldcwS2 hc.1 hc.2.1 hc.2.2.2.1 (hc.2.2.2.2.2.2.2.2.2.1 _ hr) hd ?_
  rw [← hn]
  exact hK ls H locs hl1 hR hS
/-! arrays that were there before, by a table -/
def xi_xlen (k1 : Nat) (T : Nat → Option (List Int32)) : xI := fun lv st h nc ns => match st with
  | .ref a :: r => match T a with
    | some l => some (.inl (k1, lv, .int (Int32.ofNat l.length) :: r, h, nc, ns))
    | none => none
  | _ => none
theorem xo_xlen {T : Nat → Option (List Int32)} {ty : FieldType} (hT : ∀ a l, T a = some l → (a, ty, l.length, fun j => .int (l.getD j 0)) ∈ xp_t u) (hd : decode y.2.1 (pcs k) = .ok (.arraylength, 1)) (hn : pcs k1 = pcs k + 1) : x_ok u mt y pcs k (xi_xlen k1 T) := by
  intro p l e R s m args below meth c hc hf0 hl0 lv st h nc ns o ho
  unfold xi_xlen at ho
  split at ho
  · split at ho
    · rename_i lx hz
      cases ho
      refine x_go (Nat.le_refl _) (Nat.le_refl _) (fun Q _ _ hK ls H locs hl hR hS => ?_)
      have hE := hc.2.2.2.2.2.2.2.2
      refine va_tlen hc.1 hc.2.1 (hE.2.2.2.2.2.2.2.1 _ (hT _ _ hz)) hS rfl hd ?_
      rw [← hn]
      exact hK ls H locs hl hR hS
    · cases ho
  · cases ho
def xi_xb (k1 : Nat) (T : Nat → Option (List Int32)) : xI := fun lv st h nc ns => match st with
  | .int i :: .ref a :: r => match T a with
    | some l => if ¬ (i < 0 ∨ l.length ≤ i.toNatClampNeg) then some (.inl (k1, lv, .int (l.getD i.toNatClampNeg 0) :: r, h, nc, ns)) else none
    | none => none
  | _ => none
theorem xo_xb {T : Nat → Option (List Int32)} (hT : ∀ a l, T a = some l → (a, .byte, l.length, fun j => .int (l.getD j 0)) ∈ xp_t u) (hd : decode y.2.1 (pcs k) = .ok (.baload, 1)) (hn : pcs k1 = pcs k + 1) : x_ok u mt y pcs k (xi_xb k1 T) := by
  intro p l e R s m args below meth c hc hf0 hl0 lv st h nc ns o ho
  unfold xi_xb at ho
  split at ho
  · split at ho
    · rename_i lx hz
      split at ho
      · rename_i hi
        cases ho
        refine x_go (Nat.le_refl _) (Nat.le_refl _) (fun Q _ _ hK ls H locs hl hR hS => ?_)
        have hE := hc.2.2.2.2.2.2.2.2
        refine va_tb hc.1 hc.2.1 (hE.2.2.2.2.2.2.2.1 _ (hT _ _ hz)) hS hi rfl hd ?_
        rw [← hn]
        exact hK ls H locs hl hR hS
      · cases ho
    · cases ho
  · cases ho
def xi_xi (k1 : Nat) (T : Nat → Option (List Int32)) : xI := xi_xb k1 T
theorem xo_xi {T : Nat → Option (List Int32)} (hT : ∀ a l, T a = some l → (a, .int, l.length, fun j => .int (l.getD j 0)) ∈ xp_t u) (hd : decode y.2.1 (pcs k) = .ok (.iaload, 1)) (hn : pcs k1 = pcs k + 1) : x_ok u mt y pcs k (xi_xi k1 T) := by
  intro p l e R s m args below meth c hc hf0 hl0 lv st h nc ns o ho
  unfold xi_xi xi_xb at ho
  split at ho
  · split at ho
    · rename_i lx hz
      split at ho
      · rename_i hi
        cases ho
        refine x_go (Nat.le_refl _) (Nat.le_refl _) (fun Q _ _ hK ls H locs hl hR hS => ?_)
        have hE := hc.2.2.2.2.2.2.2.2
        refine va_ti hc.1 hc.2.1 (hE.2.2.2.2.2.2.2.1 _ (hT _ _ hz)) hS hi rfl hd ?_
        rw [← hn]
        exact hK ls H locs hl hR hS
      · cases ho
    · cases ho
  · cases ho
/-! fields of objects that were there before -/
def xi_xf (k1 : Nat) (T : Nat → Option Value) : xI := fun lv st h nc ns => match st with
  | .ref a :: r => match T a with
    | some v => some (.inl (k1, lv, v :: r, h, nc, ns))
    | none => none
  | _ => none
theorem xo_xf {idx : Nat} {o n d : String} {T : Nat → Option Value} (hT : ∀ a v, T a = some v → (o, n, d, v, a) ∈ xp_f u) (hl : Cond.fieldLink y.1.cls idx o n d ∈ xp_G u) (hd : decode y.2.1 (pcs k) = .ok (.getfield idx, 3)) (hn : pcs k1 = pcs k + 3) : x_ok u mt y pcs k (xi_xf k1 T) := by
  intro p l e R s m args below meth c hc hf0 hl0 lv st h nc ns ov ho
  unfold xi_xf at ho
  split at ho
  · split at ho
    · rename_i v hz
      cases ho
      refine x_go (Nat.le_refl _) (Nat.le_refl _) (fun Q _ _ hK ls H locs hl1 hR hS => ?_)
      have hE := hc.2.2.2.2.2.2.2.2
      have hts := hc.2.2.2.2.1
      refine va_getX (N := 1) (i := 0) (v := fun _ => x_v (xp_ad u) v) (ad := fun _ => _) hc.1 hc.2.1 (fun _ _ => hE.2.2.2.2.2.2.2.2.1 _ (hT _ _ hz)) (by omega) hS hc.2.2.2.1 (hts _ hl) (fun _ hx => hx) hd ?_
      rw [← hn]
      exact hK ls H locs hl1 hR hS
    · cases ho
  · cases ho
/-! calls on objects that were there before -/
def xi_xcall (k1 n j : Nat) (T : Nat → Bool) : xI := fun lv st h nc ns => match st.drop n with
  | .ref a :: r => if T a = true ∧ (r.map fun v => v.category).sum ≤ 8 then some (.inr (.inr (j, .ref a :: (st.take n).reverse, (k1, lv, r, h, nc, ns)))) else none
  | _ => none
theorem xo_xcall {idx n j : Nat} {C : String} {T : Nat → Bool} (hG : ∀ w ∈ xp_G u, goodWord w = true) (hT : ∀ a, T a = true → (C, a) ∈ xp_k u) (hj : x_jok u (mt j) n) (hi : Cond.instanceMethod (mt j).1 ∈ xp_G u) (hs : Cond.selects C (mt j).1 (mt j).1 ∈ xp_G u) (hl : Cond.methodLink y.1.cls idx (mt j).1 ∈ xp_G u) (hd : decode y.2.1 (pcs k) = .ok (.invokevirtual idx, 3)) (hn : pcs k1 = pcs k + 3) : x_ok u mt y pcs k (xi_xcall k1 n j T) := by
  intro p l e R s m args below meth c hc hf0 hl0 lv st h nc ns o ho
  unfold xi_xcall at ho
  split at ho
  · rename_i a r hst
    split at ho
    · rename_i hroom
      cases ho
      refine x_cl (Nat.le_refl _) (Nat.le_refl _) (fun Q d rv h1 mc ms hM hf1 hf2 hc1 hc2 hK ls H locs hl1 hR hS => ?_)
      obtain ⟨j1, j2, j3, j4, j5, j6⟩ := hj
      have hrl : 8 + ((mt j).2.2.1 + 11) + (x_rm d mc ms).locals ≤ R.locals := by
        show 8 + ((mt j).2.2.1 + 11) + 64 * (d + 1) ≤ R.locals
        omega
      have hlen : ((st.take n).reverse.map (x_v (xp_ad u))).length = n := by rw [List.length_map, List.length_reverse]; exact (x_split hst).2
      have hE := hc.2.2.2.2.2.2.2.2
      have hts := hc.2.2.2.2.1
      obtain ⟨hst1, hst2⟩ := x_split hst
      have hrc : ∃ cell : Cell, H[xp_ad u a]? = some cell ∧ cell.vm.isStatics = false ∧ s.vm.findClass C = some cell.cls := by
        obtain ⟨cell, c1, c2, c3, c4⟩ := hE.2.2.2.2.2.2.2.2.2 _ (hT a hroom.1)
        exact ⟨cell, by rw [hS.2.1 _ (Array.getElem?_eq_some_iff.mp c1).1 c4]; exact c1, c2, c3⟩
      have hstk : st.map (x_v (xp_ad u)) = (((st.take n).reverse.map (x_v (xp_ad u))).reverse) ++ .ref (xp_ad u a) :: r.map (x_v (xp_ad u)) := by
        conv => lhs; rw [hst1]
        simp [x_v]
      have hroom' : 2 * (F0 m (pcs k) ls (st.map (x_v (xp_ad u)))).monitorRoom + ((r.map (x_v (xp_ad u))).map fun v => v.category).sum ≤ 8 := by
        refine lv_room ?_
        rw [List.map_map]
        rw [show (fun v : Value => v.category) ∘ x_v (xp_ad u) = (fun v : Value => v.category) from funext (fun v => x_cat _ v)]
        exact hroom.2
      refine x_callx (va_runV (As := (st.take n).reverse.map (x_v (xp_ad u))) ⟨hc.1, hc.2.1, hc.2.2.1, hc.2.2.2.1, hts⟩ hM ⟨callB_of n hts (x_good hG j1) rfl rfl rfl (hts _ j2) (hts _ hl) ⟨j3, j4, j5⟩ ⟨hf1, hrl⟩, hts _ hi, hts _ hs⟩ ⟨x_blind, hrc, x_pre hE hS hR⟩ rfl hlen hl1.1 hstk hroom' hd ⟨hc1, hc2⟩) hS (fun H1 locs1 hR1 hS1 => ?_)
      have hW := hK ls H1 locs1 hl1 hR1 hS1
      rw [hn] at hW
      rw [List.map_append] at hW
      rw [show rv.toList.map (x_v (xp_ad u)) = (rv.map (x_v (xp_ad u))).toList by cases rv <;> rfl] at hW
      exact hW
    · cases ho
  · cases ho
/-! texts that were there before are texts -/
def xi_xinst (k1 : Nat) (T : Nat → Bool) : xI := fun lv st h nc ns => match st with
  | .ref a :: r => if T a = true then some (.inl (k1, lv, .int 1 :: r, h, nc, ns)) else none
  | _ => none
theorem xo_xinst {idx : Nat} {C : String} {T : Nat → Bool} (hT : ∀ a, T a = true → (C, a) ∈ xp_k u) (hw : Cond.classLink y.1.cls idx C ∈ xp_G u) (hd : decode y.2.1 (pcs k) = .ok (.instanceof idx, 3)) (hn : pcs k1 = pcs k + 3) : x_ok u mt y pcs k (xi_xinst k1 T) := by
  intro p l e R s m args below meth c hc hf0 hl0 lv st h nc ns o ho
  unfold xi_xinst at ho
  split at ho
  · rename_i a r
    split at ho
    · rename_i hz
      cases ho
      refine x_go (Nat.le_refl _) (Nat.le_refl _) (fun Q _ _ hK ls H locs hl1 hR hS => ?_)
      have hE := hc.2.2.2.2.2.2.2.2
      have hrc : ∃ cell : Cell, H[xp_ad u a]? = some cell ∧ cell.vm.isStatics = false ∧ s.vm.findClass C = some cell.cls := by
        obtain ⟨cell, c1, c2, c3, c4⟩ := hE.2.2.2.2.2.2.2.2.2 _ (hT a hz)
        exact ⟨cell, by rw [hS.2.1 _ (Array.getElem?_eq_some_iff.mp c1).1 c4]; exact c1, c2, c3⟩
      refine va_instE hc.1 hc.2.1 hc.2.2.2.1 (hc.2.2.2.2.1 _ hw) hrc hd ?_
      rw [← hn]
      exact hK ls H locs hl1 hR hS
    · cases ho
  · cases ho
section St2
variable {p : Program} {l : Launch} {e : Env} {R : Room} {s : State} {m : MethodId} {args : Array Value} {below : List Frame} {meth : Method} {c : Code} {H : Heap} {locs : List Loc} {cells slots : Nat} {Q : State → Prop}
variable {cc : ByteArray} {pc : Nat} {ls : Array Slot} {rest : List Value} {a : Nat}
theorem x_castE (hexec : p.tables.exec = Jvm.exec) (hb : c.code = cc) {own nm : String} {index : Nat} (hown : s.vm.findClass own = some m.cls) (hlink : (Cond.classLink own index nm).before args s = true)
    (hr : ∃ cell : Cell, H[a]? = some cell ∧ cell.vm.isStatics = false ∧ s.vm.findClass nm = some cell.cls) (hdg : decode cc pc = .ok (.checkcast index, 3))
    (k : W p l e R s m args below meth c H locs cells slots Q (F0 m (pc + 3) ls (.ref a :: rest))) : W p l e R s m args below meth c H locs cells slots Q (F0 m pc ls (.ref a :: rest)) := by
  obtain ⟨cell, h1, h2, h3⟩ := hr
  intro T hT X
  obtain ⟨vm', X', st⟩ := X.checkcastYes hexec hown hlink (by rw [hT]; exact h1) h2 h3 (va_asg _ _) (g := F0 m pc ls (.ref a :: rest)) rfl rfl (by rw [hb]; exact hdg)
  obtain ⟨t, a1, b1⟩ := k (T.setVm vm') hT X'
  exact ⟨t, st t a1, b1⟩
end St2
def xi_xcast (k1 : Nat) (T : Nat → Bool) : xI := fun lv st h nc ns => match st with
  | .ref a :: r => if T a = true then some (.inl (k1, lv, .ref a :: r, h, nc, ns)) else none
  | _ => none
theorem xo_xcast {idx : Nat} {C : String} {T : Nat → Bool} (hT : ∀ a, T a = true → (C, a) ∈ xp_k u) (hw : Cond.classLink y.1.cls idx C ∈ xp_G u) (hd : decode y.2.1 (pcs k) = .ok (.checkcast idx, 3)) (hn : pcs k1 = pcs k + 3) : x_ok u mt y pcs k (xi_xcast k1 T) := by
  intro p l e R s m args below meth c hc hf0 hl0 lv st h nc ns o ho
  unfold xi_xcast at ho
  split at ho
  · rename_i a r
    split at ho
    · rename_i hz
      cases ho
      refine x_go (Nat.le_refl _) (Nat.le_refl _) (fun Q _ _ hK ls H locs hl1 hR hS => ?_)
      have hE := hc.2.2.2.2.2.2.2.2
      have hrc : ∃ cell : Cell, H[xp_ad u a]? = some cell ∧ cell.vm.isStatics = false ∧ s.vm.findClass C = some cell.cls := by
        obtain ⟨cell, c1, c2, c3, c4⟩ := hE.2.2.2.2.2.2.2.2.2 _ (hT a hz)
        exact ⟨cell, by rw [hS.2.1 _ (Array.getElem?_eq_some_iff.mp c1).1 c4]; exact c1, c2, c3⟩
      refine x_castE hc.1 hc.2.1 hc.2.2.2.1 (hc.2.2.2.2.1 _ hw) hrc hd ?_
      rw [← hn]
      exact hK ls H locs hl1 hR hS
    · cases ho
  · cases ho
end XX
