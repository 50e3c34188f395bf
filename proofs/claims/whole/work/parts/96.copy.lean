section XCp
/-! System.arraycopy, with the heap's size told -/
def x_cpl (f : Nat → Value) (sp dp n : Nat) : List (Nat × Value) := (List.range n).map (fun i => (dp + i, f (sp + i)))
theorem x_cpl_find (f : Nat → Value) (sp dp k : Nat) : ∀ n, (x_cpl f sp dp n).find? (fun q => q.1 == k) = if dp ≤ k ∧ k < dp + n then some (k, f (sp + (k - dp))) else none := by
  intro n
  induction n with
  | zero =>
    rw [if_neg (by omega)]
    rfl
  | succ n ih =>
    have e : x_cpl f sp dp (n + 1) = x_cpl f sp dp n ++ [(dp + n, f (sp + n))] := by
      unfold x_cpl
      rw [List.range_succ, List.map_append]
      rfl
    rw [e, List.find?_append, ih]
    by_cases h : dp ≤ k ∧ k < dp + n
    · rw [if_pos h, if_pos (by omega)]
      rfl
    · rw [if_neg h]
      by_cases h2 : k = dp + n
      · subst h2
        rw [if_pos (by omega)]
        simp
      · rw [if_neg (by omega)]
        have : ¬ dp + n = k := fun q => h2 q.symm
        simp [this]
theorem x_cpl_at (f : Nat → Value) (sp dp n k : Nat) (A : List (Nat × Value)) (dv : Value) : x_at (x_cpl f sp dp n ++ A) k dv = if dp ≤ k ∧ k < dp + n then f (sp + (k - dp)) else x_at A k dv := by
  unfold x_at
  rw [List.find?_append, x_cpl_find]
  by_cases h : dp ≤ k ∧ k < dp + n
  · rw [if_pos h, if_pos h]
    rfl
  · rw [if_neg h, if_neg h]
    rfl
theorem x_cpl_int (g : Nat → Int32) (sp dp n : Nat) (A : List (Nat × Value)) : x_int (x_cpl (fun i => .int (g i)) sp dp n ++ A) = va_cpy g (x_int A) sp dp n := by
  funext k
  unfold x_int va_cpy
  rw [x_cpl_at]
  by_cases h : dp ≤ k ∧ k < dp + n
  · rw [if_pos h, if_pos h]
  · rw [if_neg h, if_neg h]
theorem x_cpl_ref (ad : Nat → Nat) (B A : List (Nat × Value)) (sp dp n : Nat) : x_ref ad (x_cpl (fun i => x_rv B i) sp dp n ++ A) = va_cpy (x_ref ad B) (x_ref ad A) sp dp n := by
  funext k
  unfold x_ref va_cpy
  rw [x_cpl_at]
  by_cases h : dp ≤ k ∧ k < dp + n
  · rw [if_pos h, if_pos h]
    unfold x_rv
    dsimp only
    cases x_at B (sp + (k - dp)) .null <;> rfl
  · rw [if_neg h, if_neg h]
section W
variable {p : Program} {l : Launch} {e : Env} {R : Room} {s : State} {m : MethodId} {args : Array Value} {below : List Frame} {meth : Method} {c : Code} {H : Heap} {locs : List Loc} {cells slots : Nat} {Q : State → Prop}
variable {cc : ByteArray} {pc : Nat} {ls : Array Slot} {rest : List Value} {D : va_G} {cl : List vw_C} {a : Nat} {tys : List (ClassId × FieldType)}
theorem x_nn {z : Int32} (hz : ¬ z < 0) : z.toInt = (z.toNatClampNeg : Int) := by
  have hz0 : (0 : Int) ≤ z.toInt := by
    have := Int32.not_lt.mp hz
    simpa using Int32.le_iff_toInt_le.mp this
  show z.toInt = ((z.toInt.toNat : Nat) : Int)
  omega
theorem x_copyI (hexec : p.tables.exec = Jvm.exec) (hb : c.code = cc) (hml : c.maxLocals = ls.size) {own : String} {index : Nat} (hown : s.vm.findClass own = some m.cls) (hlink : (Cond.methodLink own index arraycopyName).before args s = true) (hnat : (Cond.native arraycopyName).before args s = true) (hstat : (Cond.static arraycopyName).before args s = true) (hini : (Cond.initialized "java/lang/System").before args s = true)
    (hK : va_K D cl tys s) (t0 t1 : Nat) {a0 : Nat} {c0 c1 : ClassId} {n0 n1 : Nat} {f g : Nat → Int32} {ty : FieldType} (hc0 : H[a0]? = some (vp_cell c0 (n0, .inl f))) (hc1 : H[a]? = some (vp_cell c1 (n1, .inl g))) (ht0 : tys[t0]? = some (c0, ty)) (ht1 : tys[t1]? = some (c1, ty)) (hprim : refKind ty = false)
    {sp dp n : Int32} (h1 : ¬ sp < 0) (h2 : ¬ dp < 0) (h3 : ¬ n < 0) (h4 : sp.toNatClampNeg + n.toNatClampNeg ≤ n0) (h5 : dp.toNatClampNeg + n.toNatClampNeg ≤ n1) (hfit : ∀ i, i < n.toNatClampNeg → fits ty (.int (f (sp.toNatClampNeg + i))) = true)
    (hframes : 1 ≤ R.frames) (hlocals : (rest.map fun v => v.category).sum + (nativeFrameWords "java/lang/System" "arraycopy" 5 + 11) ≤ R.locals) (hdg : decode cc pc = .ok (.invokestatic index, 3))
    (kk : ∀ (H1 : Heap) (locs1 : List Loc), H1.size = H.size → H1[a]? = some (vp_cell c1 (n1, .inl (va_cpy f g sp.toNatClampNeg dp.toNatClampNeg n.toNatClampNeg))) → (∀ q : Nat, q ≠ a → H1[q]? = H[q]?) → (∀ q ∈ locs1, q ∈ locs ∨ q.base = a) → W p l e R s m args below meth c H1 locs1 cells slots Q (F0 m (pc + 3) ls rest)) : W p l e R s m args below meth c H locs cells slots Q (F0 m pc ls (.int n :: .int dp :: .ref a :: .int sp :: .ref a0 :: rest)) := by
  intro T hT X
  obtain ⟨-, k0, hk0, cm0, hkk0⟩ := (hK.2 t0 _ ht0).1 n0 (fun j => .int (f j))
  obtain ⟨-, k1, hk1, cm1, hkk1⟩ := (hK.2 t1 _ ht1).1 n1 (fun j => .int (g j))
  obtain ⟨vm', X', step⟩ := X.arraycopy hexec hown hlink hnat hstat hini (src := a0) (dst := a) (cs := vp_cell c0 (n0, .inl f)) (cd := vp_cell c1 (n1, .inl g)) (srcPos := sp) (destPos := dp) (n := n) (by rw [hT]; exact hc0) (by rw [hT]; exact hc1)
    (fun _ h => by cases h) (fun _ h => by cases h) (fun h => by cases h) (fun h => by cases h) hk0 hk1 hkk0 hkk1 (by simp [hprim]) h1 h2 h3
    (by rw [x_nn h1, x_nn h3]; show ¬ _ > ((arrV c0 n0 (fun j => .int (f j))).slots.size : Int); rw [arrV_size]; omega)
    (by rw [x_nn h2, x_nn h3]; show ¬ _ > ((arrV c1 n1 (fun j => .int (g j))).slots.size : Int); rw [arrV_size]; omega)
    (fun vm₁ _ i hi => by
      have e : (vp_cell c0 (n0, .inl f)).slots.getD (sp.toNatClampNeg + i) .null = .int (f (sp.toNatClampNeg + i)) := by
        show (arrV c0 n0 (fun j => .int (f j))).slots.getD _ _ = _
        rw [Array.getD_eq_getD_getElem?, arrV_read _ _ (by omega)]
        rfl
      refine ⟨?_, ?_⟩
      · rw [e]
        exact hfit i hi
      · rw [e]
        exact trivial)
    (g := F0 m pc ls (.int n :: .int dp :: .ref a :: .int sp :: .ref a0 :: rest)) rfl (by rw [hml]) (rest := rest) rfl (by rw [hb]; exact hdg) hframes (by show 2 * 0 + _ + _ ≤ _; omega)
  have e1 : copied (vp_cell c0 (n0, .inl f)) (vp_cell c1 (n1, .inl g)) sp dp n = vp_cell c1 (n1, .inl (va_cpy f g sp.toNatClampNeg dp.toNatClampNeg n.toNatClampNeg)) := va_copied (fun z => .int z) c0 c1 f g h4
  rw [e1] at X' step
  have hl : a < H.size := (Array.getElem?_eq_some_iff.mp hc1).1
  have hheap : ((T.setVm vm').setCell a (vp_cell c1 (n1, .inl (va_cpy f g sp.toNatClampNeg dp.toNatClampNeg n.toNatClampNeg)))).heap = H.setIfInBounds a (vp_cell c1 (n1, .inl (va_cpy f g sp.toNatClampNeg dp.toNatClampNeg n.toNatClampNeg))) := by rw [← hT]; rfl
  obtain ⟨t, a1, b1⟩ := kk _ _ (by simp) (by simp [Array.getElem?_setIfInBounds, hl]) (fun q hq => by simp [Array.getElem?_setIfInBounds, Ne.symm hq]) (fun q hq => by
      rcases List.mem_append.mp hq with h | h
      · exact Or.inl h
      · obtain ⟨z, -, hz⟩ := List.mem_map.mp h
        rw [← hz]
        exact Or.inr rfl) _ hheap X'
  exact ⟨t, step t a1, b1⟩
theorem x_copyQ (hexec : p.tables.exec = Jvm.exec) (hb : c.code = cc) (hml : c.maxLocals = ls.size) {own : String} {index : Nat} (hown : s.vm.findClass own = some m.cls) (hlink : (Cond.methodLink own index arraycopyName).before args s = true) (hnat : (Cond.native arraycopyName).before args s = true) (hstat : (Cond.static arraycopyName).before args s = true) (hini : (Cond.initialized "java/lang/System").before args s = true)
    (hK : va_K D cl tys s) (t0 t1 : Nat) {a0 : Nat} {c0 c1 : ClassId} {n0 n1 : Nat} {f g : Nat → Option Nat} {E0 E1 : String} (hc0 : H[a0]? = some (vp_cell c0 (n0, .inr (.inr (.inr (.inr f)))))) (hc1 : H[a]? = some (vp_cell c1 (n1, .inr (.inr (.inr (.inr g)))))) (ht0 : tys[t0]? = some (c0, .object E0)) (ht1 : tys[t1]? = some (c1, .object E1))
    {sp dp n : Int32} (h1 : ¬ sp < 0) (h2 : ¬ dp < 0) (h3 : ¬ n < 0) (h4 : sp.toNatClampNeg + n.toNatClampNeg ≤ n0) (h5 : dp.toNatClampNeg + n.toNatClampNeg ≤ n1) (hel : ∀ i : Nat, i < n.toNatClampNeg → ∀ y : Nat, f (sp.toNatClampNeg + i) = some y → ∃ (cellV : Cell) (comp : ClassId) (kC : Class), H[y]? = some cellV ∧ cellV.vm.isStatics = false ∧ s.vm.findClass E1 = some comp ∧ s.vm.classes[cellV.cls]? = some kC ∧ s.vm.assignable cellV.cls comp = true)
    (hframes : 1 ≤ R.frames) (hlocals : (rest.map fun v => v.category).sum + (nativeFrameWords "java/lang/System" "arraycopy" 5 + 11) ≤ R.locals) (hdg : decode cc pc = .ok (.invokestatic index, 3))
    (kk : ∀ (H1 : Heap) (locs1 : List Loc), H1.size = H.size → H1[a]? = some (vp_cell c1 (n1, .inr (.inr (.inr (.inr (va_cpy f g sp.toNatClampNeg dp.toNatClampNeg n.toNatClampNeg)))))) → (∀ q : Nat, q ≠ a → H1[q]? = H[q]?) → (∀ q ∈ locs1, q ∈ locs ∨ q.base = a) → W p l e R s m args below meth c H1 locs1 cells slots Q (F0 m (pc + 3) ls rest)) : W p l e R s m args below meth c H locs cells slots Q (F0 m pc ls (.int n :: .int dp :: .ref a :: .int sp :: .ref a0 :: rest)) := by
  intro T hT X
  obtain ⟨-, k0, hk0, cm0, hkk0⟩ := (hK.2 t0 _ ht0).1 n0 (fun j => va_rf (f j))
  obtain ⟨-, k1, hk1, cm1, hkk1⟩ := (hK.2 t1 _ ht1).1 n1 (fun j => va_rf (g j))
  obtain ⟨vm', X', step⟩ := X.arraycopy hexec hown hlink hnat hstat hini (src := a0) (dst := a) (cs := vp_cell c0 (n0, .inr (.inr (.inr (.inr f))))) (cd := vp_cell c1 (n1, .inr (.inr (.inr (.inr g))))) (srcPos := sp) (destPos := dp) (n := n) (by rw [hT]; exact hc0) (by rw [hT]; exact hc1)
    (fun _ h => by cases h) (fun _ h => by cases h) (fun h => by cases h) (fun h => by cases h) hk0 hk1 hkk0 hkk1 rfl h1 h2 h3
    (by rw [x_nn h1, x_nn h3]; show ¬ _ > ((arrV c0 n0 (fun j => va_rf (f j))).slots.size : Int); rw [arrV_size]; omega)
    (by rw [x_nn h2, x_nn h3]; show ¬ _ > ((arrV c1 n1 (fun j => va_rf (g j))).slots.size : Int); rw [arrV_size]; omega)
    (fun vm₁ hal i hi => by
      have e : (vp_cell c0 (n0, .inr (.inr (.inr (.inr f))))).slots.getD (sp.toNatClampNeg + i) .null = va_rf (f (sp.toNatClampNeg + i)) := by
        show (arrV c0 n0 (fun j => va_rf (f j))).slots.getD _ _ = _
        rw [Array.getD_eq_getD_getElem?, arrV_read _ _ (by omega)]
        rfl
      rw [e]
      cases hy : f (sp.toNatClampNeg + i) with
      | none => exact ⟨rfl, trivial⟩
      | some y =>
        obtain ⟨cellV, comp0, kC, g1, g2, g3, g4, g5⟩ := hel i hi y hy
        obtain ⟨kA, comp, r1, r2, r3, -⟩ := (hK.2 t1 _ ht1).2
        cases hk1.symm.trans r1
        cases hkk1.symm.trans r2
        cases g3.symm.trans r3
        obtain ⟨kE, hkE, -⟩ := Vm.findClass_spec r3
        obtain ⟨kC', hkC', -⟩ := hal.2.2 _ _ g4
        obtain ⟨kE', hkE', -⟩ := hal.2.2 _ _ hkE
        refine ⟨rfl, cellV, (show T.heap[y]? = some cellV by rw [hT]; exact g1), (fun q h => by rw [h] at g2; cases g2), ⟨kC', hkC'⟩, ?_, ?_⟩
        · exact ⟨kE', hkE'⟩
        · show vm₁.assignable _ _ = true
          rw [hal.assignable]
          exact g5)
    (g := F0 m pc ls (.int n :: .int dp :: .ref a :: .int sp :: .ref a0 :: rest)) rfl (by rw [hml]) (rest := rest) rfl (by rw [hb]; exact hdg) hframes (by show 2 * 0 + _ + _ ≤ _; omega)
  have e1 : copied (vp_cell c0 (n0, .inr (.inr (.inr (.inr f))))) (vp_cell c1 (n1, .inr (.inr (.inr (.inr g))))) sp dp n = vp_cell c1 (n1, .inr (.inr (.inr (.inr (va_cpy f g sp.toNatClampNeg dp.toNatClampNeg n.toNatClampNeg))))) := by
    rw [vp_cell_q, vp_cell_q, vp_cell_q]
    exact va_copied (fun z => va_rf z) c0 c1 f g h4
  rw [e1] at X' step
  have hl : a < H.size := (Array.getElem?_eq_some_iff.mp hc1).1
  have hheap : ((T.setVm vm').setCell a (vp_cell c1 (n1, .inr (.inr (.inr (.inr (va_cpy f g sp.toNatClampNeg dp.toNatClampNeg n.toNatClampNeg))))))).heap = H.setIfInBounds a (vp_cell c1 (n1, .inr (.inr (.inr (.inr (va_cpy f g sp.toNatClampNeg dp.toNatClampNeg n.toNatClampNeg)))))) := by rw [← hT]; rfl
  obtain ⟨t, a1, b1⟩ := kk _ _ (by simp) (by simp [Array.getElem?_setIfInBounds, hl]) (fun q hq => by simp [Array.getElem?_setIfInBounds, Ne.symm hq]) (fun q hq => by
      rcases List.mem_append.mp hq with h | h
      · exact Or.inl h
      · obtain ⟨z, -, hz⟩ := List.mem_map.mp h
        rw [← hz]
        exact Or.inr rfl) _ hheap X'
  exact ⟨t, step t a1, b1⟩
end W
variable {u : xPi} {mt : Nat → xM} {y : xM} {pcs : Nat → Nat} {k k1 kt : Nat}
theorem x_S_cp {s : State} {H H1 : Heap} {locs locs1 : List Loc} {a : Nat} {h : xH} {q0 : xE} (hS : va_S (xp_A u) s.heap H locs) (hR : x_R u h H) (ha : h[a]? = some q0) (z : H1.size = H.size) (oq : ∀ q : Nat, q ≠ xp_ad u a → H1[q]? = H[q]?) (hl : ∀ q ∈ locs1, q ∈ locs ∨ q.base = xp_ad u a) : va_S (xp_A u) s.heap H1 locs1 := by
  have hA : xp_A u (xp_ad u a) := by
    have hal : a < h.length := (List.getElem?_eq_some_iff.mp ha).1
    have e2 : xp_ad u a = xp_b u + a := x_ad_own (by have := hR.2.1; omega)
    show xp_b u ≤ xp_ad u a
    omega
  refine ⟨by rw [z]; exact hS.1, fun q h1 h2 => ?_, fun q hq => ?_⟩
  · rw [oq q (fun e => h2 (by rw [e]; exact hA))]
    exact hS.2.1 q h1 h2
  · rcases hl q hq with g | g
    · exact hS.2.2 q g
    · rw [g]; exact hA
/-- arraycopy between arrays of numbers of one's own -/
def xi_copyI (k1 t : Nat) (ty : FieldType) : xI := fun lv st h nc ns => match st with
  | .int n :: .int dp :: .ref a :: .int sp :: .ref a0 :: r => match h[a0]?, h[a]? with
    | some (.inl w0), some (.inl w1) => if (w0.1 = t ∧ w1.1 = t) ∧ (¬ sp < 0 ∧ ¬ dp < 0 ∧ ¬ n < 0) ∧ (sp.toNatClampNeg + n.toNatClampNeg ≤ w0.2.1 ∧ dp.toNatClampNeg + n.toNatClampNeg ≤ w1.2.1) ∧ ((List.range n.toNatClampNeg).all (fun i => fits ty (.int (x_int w0.2.2 (sp.toNatClampNeg + i))))) = true ∧ (r.map fun v => v.category).sum ≤ 8 then some (.inl (k1, lv, r, h.set a (.inl (t, w1.2.1, x_cpl (fun i => .int (x_int w0.2.2 i)) sp.toNatClampNeg dp.toNatClampNeg n.toNatClampNeg ++ w1.2.2)), nc, ns)) else none
    | _, _ => none
  | _ => none
theorem x_nfw : nativeFrameWords "java/lang/System" "arraycopy" 5 + 11 = 18 := by decide
theorem x_rsum {ad : Nat → Nat} {r : List Value} : ((r.map (x_v ad)).map fun v => v.category).sum = (r.map fun v => v.category).sum := by
  rw [List.map_map]
  rw [show (fun v : Value => v.category) ∘ x_v ad = (fun v : Value => v.category) from funext (fun v => x_cat _ v)]
theorem xo_copyI {t idx : Nat} {cA : ClassId} {ty : FieldType} (ht : (xp_ty u)[t]? = some (cA, ty)) (hty : ∀ ad n l, x_arr ad ty n l = (n, .inl (x_int l))) (hprim : refKind ty = false) (hl : Cond.methodLink y.1.cls idx arraycopyName ∈ xp_G u) (h1 : Cond.native arraycopyName ∈ xp_G u) (h2 : Cond.static arraycopyName ∈ xp_G u) (h3 : Cond.initialized "java/lang/System" ∈ xp_G u) (hd : decode y.2.1 (pcs k) = .ok (.invokestatic idx, 3)) (hn : pcs k1 = pcs k + 3) : x_ok u mt y pcs k (xi_copyI k1 t ty) := by
  intro p l e R s m args below meth c hc hf0 hl0 lv st h nc ns o ho
  unfold xi_copyI at ho
  split at ho
  · rename_i n dp a sp a0 r
    split at ho
    · rename_i w0 w1 e0 e1
      split at ho
      · rename_i hz
        cases ho
        refine x_go (Nat.le_refl _) (Nat.le_refl _) (fun Q _ _ hK ls H locs hls hR hS => ?_)
        have hE := hc.2.2.2.2.2.2.2.2
        have hts := hc.2.2.2.2.1
        obtain ⟨t0, n0, l0⟩ := w0
        obtain ⟨t1, n1, l1⟩ := w1
        obtain ⟨⟨g1, g2⟩, ⟨g3, g4, g5⟩, ⟨g6, g7⟩, g8, g9⟩ := hz
        dsimp only at g1 g2 g6 g7 g8
        subst g1
        subst g2
        have hw0 := x_P1 hR e0 (by show (xp_ty u)[_]? ≠ none; rw [ht]; simp) 0 _ rfl
        have hw1 := x_P1 hR e1 (by show (xp_ty u)[_]? ≠ none; rw [ht]; simp) 0 _ rfl
        rw [x_c_arr ht, hty] at hw0 hw1
        refine x_copyI (t0 := _) (t1 := _) hc.1 hc.2.1 (by rw [hc.2.2.1]; exact hls.1.symm) hc.2.2.2.1 (hts _ hl) (hts _ h1) (hts _ h2) (hts _ h3) hE.2.2.2.2.1 hw0 hw1 ht ht hprim g3 g4 g5 g6 g7 (fun i hi => List.all_eq_true.mp g8 i (List.mem_range.mpr hi)) hf0 (by rw [x_rsum, x_nfw]; omega) hd (fun H1 locs1 z ee oq hlo => ?_)
        have hW := hK ls H1 locs1 hls (x_R_set hR e1 ?_ z oq) (x_S_cp hS hR e1 z oq hlo)
        · rw [hn] at hW
          exact hW
        · rw [x_c_arr ht, hty, x_cpl_int]
          exact ee
      · cases ho
    · cases ho
  · cases ho
/-- what may stand in an array of objects -/
def x_el (h : xH) (cs : List Nat) (v : Value) : Bool := match v with
  | .ref a => match h[a]? with
    | some (.inr z) => cs.contains z.1
    | _ => false
  | .null => true
  | _ => false
/-- arraycopy between arrays of references of one's own -/
def xi_copyQ (k1 t : Nat) (cs : List Nat) : xI := fun lv st h nc ns => match st with
  | .int n :: .int dp :: .ref a :: .int sp :: .ref a0 :: r => match h[a0]?, h[a]? with
    | some (.inl w0), some (.inl w1) => if (w0.1 = t ∧ w1.1 = t) ∧ (¬ sp < 0 ∧ ¬ dp < 0 ∧ ¬ n < 0) ∧ (sp.toNatClampNeg + n.toNatClampNeg ≤ w0.2.1 ∧ dp.toNatClampNeg + n.toNatClampNeg ≤ w1.2.1) ∧ ((List.range n.toNatClampNeg).all (fun i => x_el h cs (x_rv w0.2.2 (sp.toNatClampNeg + i)))) = true ∧ (r.map fun v => v.category).sum ≤ 8 then some (.inl (k1, lv, r, h.set a (.inl (t, w1.2.1, x_cpl (fun i => x_rv w0.2.2 i) sp.toNatClampNeg dp.toNatClampNeg n.toNatClampNeg ++ w1.2.2)), nc, ns)) else none
    | _, _ => none
  | _ => none
theorem xo_copyQ {t idx : Nat} {cA : ClassId} {C : String} {cs : List Nat} (ht : (xp_ty u)[t]? = some (cA, .object C)) (hcs : ∀ ci ∈ cs, x_aok u C ci) (hl : Cond.methodLink y.1.cls idx arraycopyName ∈ xp_G u) (h1 : Cond.native arraycopyName ∈ xp_G u) (h2 : Cond.static arraycopyName ∈ xp_G u) (h3 : Cond.initialized "java/lang/System" ∈ xp_G u) (hd : decode y.2.1 (pcs k) = .ok (.invokestatic idx, 3)) (hn : pcs k1 = pcs k + 3) : x_ok u mt y pcs k (xi_copyQ k1 t cs) := by
  intro p l e R s m args below meth c hc hf0 hl0 lv st h nc ns o ho
  unfold xi_copyQ at ho
  split at ho
  · rename_i n dp a sp a0 r
    split at ho
    · rename_i w0 w1 e0 e1
      split at ho
      · rename_i hz
        cases ho
        refine x_go (Nat.le_refl _) (Nat.le_refl _) (fun Q _ _ hK ls H locs hls hR hS => ?_)
        have hE := hc.2.2.2.2.2.2.2.2
        have hts := hc.2.2.2.2.1
        obtain ⟨t0, n0, l0⟩ := w0
        obtain ⟨t1, n1, l1⟩ := w1
        obtain ⟨⟨g1, g2⟩, ⟨g3, g4, g5⟩, ⟨g6, g7⟩, g8, g9⟩ := hz
        dsimp only at g1 g2 g6 g7 g8
        subst g1
        subst g2
        have hw0 := x_P1 hR e0 (by show (xp_ty u)[_]? ≠ none; rw [ht]; simp) 0 _ rfl
        have hw1 := x_P1 hR e1 (by show (xp_ty u)[_]? ≠ none; rw [ht]; simp) 0 _ rfl
        rw [x_c_arr ht] at hw0 hw1
        obtain ⟨kA, comp, q1, q2, q3, -⟩ := (hE.2.2.2.2.1.2 _ _ ht).2
        refine x_copyQ (t0 := _) (t1 := _) hc.1 hc.2.1 (by rw [hc.2.2.1]; exact hls.1.symm) hc.2.2.2.1 (hts _ hl) (hts _ h1) (hts _ h2) (hts _ h3) hE.2.2.2.2.1 hw0 hw1 ht ht g3 g4 g5 g6 g7 (fun i hi w hw => ?_) hf0 (by rw [x_rsum, x_nfw]; omega) hd (fun H1 locs1 z ee oq hlo => ?_)
        · have hx := List.all_eq_true.mp g8 i (List.mem_range.mpr hi)
          have hw' : x_ref (xp_ad u) l0 (sp.toNatClampNeg + i) = some w := hw
          unfold x_ref at hw'
          unfold x_el x_rv at hx
          cases hv : x_at l0 (sp.toNatClampNeg + i) .null with
          | ref v =>
            rw [hv] at hw' hx
            dsimp only at hw' hx
            cases hw'
            split at hx
            · rename_i z hz
              obtain ⟨r', hr', cellV, c1, c2, c3, -⟩ := hR.2.2 v _ hz trivial
              obtain ⟨hasg, kC, hkC⟩ := x_aok_asg hE (hcs _ (by simpa using hx)) q3
              exact ⟨cellV, comp, kC, c1, by rw [c3]; rfl, q3, by rw [c2]; exact hkC, by rw [c2]; exact hasg⟩
            · cases hx
          | _ => rw [hv] at hw'; cases hw'
        · have hW := hK ls H1 locs1 hls (x_R_set hR e1 ?_ z oq) (x_S_cp hS hR e1 z oq hlo)
          · rw [hn] at hW
            exact hW
          · rw [x_c_arr ht]
            show H1[xp_ad u a]? = some (vp_cell cA (n1, .inr (.inr (.inr (.inr (x_ref (xp_ad u) _))))))
            rw [x_cpl_ref]
            exact ee
      · cases ho
    · cases ho
  · cases ho
end XCp
