section XD
def x_get (lv : xL) (i : Nat) : Option Value := match lv.find? (fun q => q.1 == i) with
  | some q => some q.2
  | none => none
theorem x_get_mem {lv : xL} {i : Nat} {v : Value} (h : x_get lv i = some v) : (i, v) ∈ lv := by
  unfold x_get at h
  split at h
  · rename_i q hq
    cases h
    have h1 := List.find?_some hq
    have h2 := List.mem_of_find?_eq_some hq
    have h3 : q.1 = i := by simpa using h1
    rw [← h3]
    exact h2
  · cases h
theorem x_get_at {ad : Nat → Nat} {lv : xL} {i nL : Nat} {v : Value} {ls : Array Slot} (hl : lv_has ls nL (x_l ad lv)) (h : x_get lv i = some v) : ls[i]? = some (.val (x_v ad v)) :=
  hl.2.2 (i, x_v ad v) (List.mem_map.mpr ⟨(i, v), x_get_mem h, rfl⟩)
theorem x_cat (ad : Nat → Nat) (v : Value) : (x_v ad v).category = v.category := by cases v <;> rfl
def x_st1 (lv : xL) (i : Nat) (v : Value) : xL := (i, v) :: lv.filter (fun q => !(q.1 == i) && !(q.1 + 1 == i && q.2.category == 2))
def x_st2 (lv : xL) (i : Nat) (v : Value) : xL := (i, v) :: lv.filter (fun q => !(q.1 == i) && (!(q.1 == i + 1) && !(q.1 + 1 == i && q.2.category == 2)))
theorem x_l_filter (ad : Nat → Nat) (P : Nat → Nat → Bool) (lv : xL) : (x_l ad lv).filter (fun q => P q.1 q.2.category) = x_l ad (lv.filter (fun q => P q.1 q.2.category)) := by
  unfold x_l
  rw [List.filter_map]
  congr 1
  apply List.filter_congr
  intro q _
  simp [Function.comp, x_cat]
theorem x_l_st1 (ad : Nat → Nat) (lv : xL) (i : Nat) (v : Value) : (i, x_v ad v) :: (x_l ad lv).filter (fun q => !(q.1 == i) && !(q.1 + 1 == i && q.2.category == 2)) = x_l ad (x_st1 lv i v) := by
  rw [x_l_filter ad (fun a b => !(a == i) && !(a + 1 == i && b == 2))]
  rfl
theorem x_l_st2 (ad : Nat → Nat) (lv : xL) (i : Nat) (v : Value) : (i, x_v ad v) :: (x_l ad lv).filter (fun q => !(q.1 == i) && (!(q.1 == i + 1) && !(q.1 + 1 == i && q.2.category == 2))) = x_l ad (x_st2 lv i v) := by
  rw [x_l_filter ad (fun a b => !(a == i) && (!(a == i + 1) && !(a + 1 == i && b == 2)))]
  rfl
section Go
variable {u : xPi} {mt : Nat → xM} {y : xM} {pcs : Nat → Nat} {k : Nat} {p : Program} {l : Launch} {e : Env} {R : Room} {s : State} {m : MethodId} {args : Array Value} {below : List Frame} {meth : Method} {c : Code} {lv : xL} {st : List Value} {h : xH} {nc ns : Nat}
theorem x_go {g : xG} (h1 : nc ≤ g.2.2.2.2.1) (h2 : ns ≤ g.2.2.2.2.2) (h3 : ∀ Q : State → Prop, g.2.2.2.2.1 ≤ R.cells → g.2.2.2.2.2 ≤ R.slots →
        x_K u y.2.2.1 p l e R s m args below meth c Q (pcs g.1) g.2.1 g.2.2.1 g.2.2.2.1 g.2.2.2.2.1 g.2.2.2.2.2 → x_K u y.2.2.1 p l e R s m args below meth c Q (pcs k) lv st h nc ns) :
      (∀ g' : xG, (Sum.inl g : xO) = .inl g' → nc ≤ g'.2.2.2.2.1 ∧ ns ≤ g'.2.2.2.2.2 ∧ ∀ Q : State → Prop, g'.2.2.2.2.1 ≤ R.cells → g'.2.2.2.2.2 ≤ R.slots →
        x_K u y.2.2.1 p l e R s m args below meth c Q (pcs g'.1) g'.2.1 g'.2.2.1 g'.2.2.2.1 g'.2.2.2.2.1 g'.2.2.2.2.2 → x_K u y.2.2.1 p l e R s m args below meth c Q (pcs k) lv st h nc ns) ∧
      (∀ r : Option Value × xH × Nat × Nat, (Sum.inl g : xO) = .inr (.inl r) → r.2.2.1 = nc ∧ r.2.2.2 = ns ∧ ∀ Qc : Array Value → State → Outcome → State → Prop,
        (∀ t : State, x_R u r.2.1 t.heap → va_F (xp_A u) s t → Qc args s (.returned (r.1.map (x_v (xp_ad u)))) t) → x_K u y.2.2.1 p l e R s m args below meth c (MQ below Qc args s nc ns (xp_A u)) (pcs k) lv st h nc ns) ∧
      (∀ (j : Nat) (as : List Value) (g' : xG), (Sum.inl g : xO) = .inr (.inr (j, as, g')) → nc ≤ g'.2.2.2.2.1 ∧ ns ≤ g'.2.2.2.2.2 ∧ ∀ (Q : State → Prop) (d : Nat) (r : Option Value) (h1 : xH) (mc ms : Nat), x_Met u l (mt j) d as g'.2.2.2.1 r h1 mc ms → d + 2 ≤ R.frames → 64 * (d + 2) ≤ R.locals → g'.2.2.2.2.1 + mc ≤ R.cells → g'.2.2.2.2.2 + ms ≤ R.slots →
        x_K u y.2.2.1 p l e R s m args below meth c Q (pcs g'.1) g'.2.1 (r.toList ++ g'.2.2.1) h1 (g'.2.2.2.2.1 + mc) (g'.2.2.2.2.2 + ms) → x_K u y.2.2.1 p l e R s m args below meth c Q (pcs k) lv st h nc ns) := by
  refine ⟨fun g' hg => ?_, fun r hr => (by cases hr), fun j as g' hg => (by cases hg)⟩
  cases hg
  exact ⟨h1, h2, h3⟩
end Go
variable {u : xPi} {mt : Nat → xM} {y : xM} {pcs : Nat → Nat} {k k1 kt : Nat}
def xi_iadd (k1 : Nat) : xI := fun lv st h nc ns => match st with
  | .int z :: .int x :: r => some (.inl (k1, lv, .int (x + z) :: r, h, nc, ns))
  | _ => none
theorem xo_iadd (hd : decode y.2.1 (pcs k) = .ok (.iadd, 1)) (hn : pcs k1 = pcs k + 1) : x_ok u mt y pcs k (xi_iadd k1) := by
  intro p l e R s m args below meth c hc hf0 hl0 lv st h nc ns o ho
  unfold xi_iadd at ho
  split at ho
  · cases ho
    refine x_go (Nat.le_refl _) (Nat.le_refl _) (fun Q _ _ hK ls H locs hl hR hS => ?_)
    refine lv_iadd hc.1 hc.2.1 hd ?_
    rw [← hn]
    exact hK ls H locs hl hR hS
  · cases ho
def xi_isub (k1 : Nat) : xI := fun lv st h nc ns => match st with
  | .int z :: .int x :: r => some (.inl (k1, lv, .int (x - z) :: r, h, nc, ns))
  | _ => none
theorem xo_isub (hd : decode y.2.1 (pcs k) = .ok (.isub, 1)) (hn : pcs k1 = pcs k + 1) : x_ok u mt y pcs k (xi_isub k1) := by
  intro p l e R s m args below meth c hc hf0 hl0 lv st h nc ns o ho
  unfold xi_isub at ho
  split at ho
  · cases ho
    refine x_go (Nat.le_refl _) (Nat.le_refl _) (fun Q _ _ hK ls H locs hl hR hS => ?_)
    refine lv_isub hc.1 hc.2.1 hd ?_
    rw [← hn]
    exact hK ls H locs hl hR hS
  · cases ho
def xi_imul (k1 : Nat) : xI := fun lv st h nc ns => match st with
  | .int z :: .int x :: r => some (.inl (k1, lv, .int (x * z) :: r, h, nc, ns))
  | _ => none
theorem xo_imul (hd : decode y.2.1 (pcs k) = .ok (.imul, 1)) (hn : pcs k1 = pcs k + 1) : x_ok u mt y pcs k (xi_imul k1) := by
  intro p l e R s m args below meth c hc hf0 hl0 lv st h nc ns o ho
  unfold xi_imul at ho
  split at ho
  · cases ho
    refine x_go (Nat.le_refl _) (Nat.le_refl _) (fun Q _ _ hK ls H locs hl hR hS => ?_)
    refine lv_imul hc.1 hc.2.1 hd ?_
    rw [← hn]
    exact hK ls H locs hl hR hS
  · cases ho
def xi_iand (k1 : Nat) : xI := fun lv st h nc ns => match st with
  | .int z :: .int x :: r => some (.inl (k1, lv, .int (x &&& z) :: r, h, nc, ns))
  | _ => none
theorem xo_iand (hd : decode y.2.1 (pcs k) = .ok (.iand, 1)) (hn : pcs k1 = pcs k + 1) : x_ok u mt y pcs k (xi_iand k1) := by
  intro p l e R s m args below meth c hc hf0 hl0 lv st h nc ns o ho
  unfold xi_iand at ho
  split at ho
  · cases ho
    refine x_go (Nat.le_refl _) (Nat.le_refl _) (fun Q _ _ hK ls H locs hl hR hS => ?_)
    refine lv_iand hc.1 hc.2.1 hd ?_
    rw [← hn]
    exact hK ls H locs hl hR hS
  · cases ho
def xi_ior (k1 : Nat) : xI := fun lv st h nc ns => match st with
  | .int z :: .int x :: r => some (.inl (k1, lv, .int (x ||| z) :: r, h, nc, ns))
  | _ => none
theorem xo_ior (hd : decode y.2.1 (pcs k) = .ok (.ior, 1)) (hn : pcs k1 = pcs k + 1) : x_ok u mt y pcs k (xi_ior k1) := by
  intro p l e R s m args below meth c hc hf0 hl0 lv st h nc ns o ho
  unfold xi_ior at ho
  split at ho
  · cases ho
    refine x_go (Nat.le_refl _) (Nat.le_refl _) (fun Q _ _ hK ls H locs hl hR hS => ?_)
    refine lv_ior hc.1 hc.2.1 hd ?_
    rw [← hn]
    exact hK ls H locs hl hR hS
  · cases ho
def xi_ixor (k1 : Nat) : xI := fun lv st h nc ns => match st with
  | .int z :: .int x :: r => some (.inl (k1, lv, .int (x ^^^ z) :: r, h, nc, ns))
  | _ => none
theorem xo_ixor (hd : decode y.2.1 (pcs k) = .ok (.ixor, 1)) (hn : pcs k1 = pcs k + 1) : x_ok u mt y pcs k (xi_ixor k1) := by
  intro p l e R s m args below meth c hc hf0 hl0 lv st h nc ns o ho
  unfold xi_ixor at ho
  split at ho
  · cases ho
    refine x_go (Nat.le_refl _) (Nat.le_refl _) (fun Q _ _ hK ls H locs hl hR hS => ?_)
    refine lv_ixor hc.1 hc.2.1 hd ?_
    rw [← hn]
    exact hK ls H locs hl hR hS
  · cases ho
def xi_ishl (k1 : Nat) : xI := fun lv st h nc ns => match st with
  | .int z :: .int x :: r => some (.inl (k1, lv, .int (x <<< (z &&& 31)) :: r, h, nc, ns))
  | _ => none
theorem xo_ishl (hd : decode y.2.1 (pcs k) = .ok (.ishl, 1)) (hn : pcs k1 = pcs k + 1) : x_ok u mt y pcs k (xi_ishl k1) := by
  intro p l e R s m args below meth c hc hf0 hl0 lv st h nc ns o ho
  unfold xi_ishl at ho
  split at ho
  · cases ho
    refine x_go (Nat.le_refl _) (Nat.le_refl _) (fun Q _ _ hK ls H locs hl hR hS => ?_)
    refine lv_ishl hc.1 hc.2.1 hd ?_
    rw [← hn]
    exact hK ls H locs hl hR hS
  · cases ho
def xi_ishr (k1 : Nat) : xI := fun lv st h nc ns => match st with
  | .int z :: .int x :: r => some (.inl (k1, lv, .int (x >>> (z &&& 31)) :: r, h, nc, ns))
  | _ => none
theorem xo_ishr (hd : decode y.2.1 (pcs k) = .ok (.ishr, 1)) (hn : pcs k1 = pcs k + 1) : x_ok u mt y pcs k (xi_ishr k1) := by
  intro p l e R s m args below meth c hc hf0 hl0 lv st h nc ns o ho
  unfold xi_ishr at ho
  split at ho
  · cases ho
    refine x_go (Nat.le_refl _) (Nat.le_refl _) (fun Q _ _ hK ls H locs hl hR hS => ?_)
    refine lv_ishr hc.1 hc.2.1 hd ?_
    rw [← hn]
    exact hK ls H locs hl hR hS
  · cases ho
def xi_iushr (k1 : Nat) : xI := fun lv st h nc ns => match st with
  | .int z :: .int x :: r => some (.inl (k1, lv, .int (x.toUInt32 >>> (z.toUInt32 &&& Int32.toUInt32 31)).toInt32 :: r, h, nc, ns))
  | _ => none
theorem xo_iushr (hd : decode y.2.1 (pcs k) = .ok (.iushr, 1)) (hn : pcs k1 = pcs k + 1) : x_ok u mt y pcs k (xi_iushr k1) := by
  intro p l e R s m args below meth c hc hf0 hl0 lv st h nc ns o ho
  unfold xi_iushr at ho
  split at ho
  · cases ho
    refine x_go (Nat.le_refl _) (Nat.le_refl _) (fun Q _ _ hK ls H locs hl hR hS => ?_)
    refine lv_iushr hc.1 hc.2.1 hd rfl ?_
    rw [← hn]
    exact hK ls H locs hl hR hS
  · cases ho
def xi_ladd (k1 : Nat) : xI := fun lv st h nc ns => match st with
  | .long z :: .long x :: r => some (.inl (k1, lv, .long (x + z) :: r, h, nc, ns))
  | _ => none
theorem xo_ladd (hd : decode y.2.1 (pcs k) = .ok (.ladd, 1)) (hn : pcs k1 = pcs k + 1) : x_ok u mt y pcs k (xi_ladd k1) := by
  intro p l e R s m args below meth c hc hf0 hl0 lv st h nc ns o ho
  unfold xi_ladd at ho
  split at ho
  · cases ho
    refine x_go (Nat.le_refl _) (Nat.le_refl _) (fun Q _ _ hK ls H locs hl hR hS => ?_)
    refine lv_ladd hc.1 hc.2.1 hd ?_
    rw [← hn]
    exact hK ls H locs hl hR hS
  · cases ho
def xi_lsub (k1 : Nat) : xI := fun lv st h nc ns => match st with
  | .long z :: .long x :: r => some (.inl (k1, lv, .long (x - z) :: r, h, nc, ns))
  | _ => none
theorem xo_lsub (hd : decode y.2.1 (pcs k) = .ok (.lsub, 1)) (hn : pcs k1 = pcs k + 1) : x_ok u mt y pcs k (xi_lsub k1) := by
  intro p l e R s m args below meth c hc hf0 hl0 lv st h nc ns o ho
  unfold xi_lsub at ho
  split at ho
  · cases ho
    refine x_go (Nat.le_refl _) (Nat.le_refl _) (fun Q _ _ hK ls H locs hl hR hS => ?_)
    refine lv_lsub hc.1 hc.2.1 hd ?_
    rw [← hn]
    exact hK ls H locs hl hR hS
  · cases ho
def xi_lmul (k1 : Nat) : xI := fun lv st h nc ns => match st with
  | .long z :: .long x :: r => some (.inl (k1, lv, .long (x * z) :: r, h, nc, ns))
  | _ => none
theorem xo_lmul (hd : decode y.2.1 (pcs k) = .ok (.lmul, 1)) (hn : pcs k1 = pcs k + 1) : x_ok u mt y pcs k (xi_lmul k1) := by
  intro p l e R s m args below meth c hc hf0 hl0 lv st h nc ns o ho
  unfold xi_lmul at ho
  split at ho
  · cases ho
    refine x_go (Nat.le_refl _) (Nat.le_refl _) (fun Q _ _ hK ls H locs hl hR hS => ?_)
    refine lv_lmul hc.1 hc.2.1 hd ?_
    rw [← hn]
    exact hK ls H locs hl hR hS
  · cases ho
def xi_land (k1 : Nat) : xI := fun lv st h nc ns => match st with
  | .long z :: .long x :: r => some (.inl (k1, lv, .long (x &&& z) :: r, h, nc, ns))
  | _ => none
theorem xo_land (hd : decode y.2.1 (pcs k) = .ok (.land, 1)) (hn : pcs k1 = pcs k + 1) : x_ok u mt y pcs k (xi_land k1) := by
  intro p l e R s m args below meth c hc hf0 hl0 lv st h nc ns o ho
  unfold xi_land at ho
  split at ho
  · cases ho
    refine x_go (Nat.le_refl _) (Nat.le_refl _) (fun Q _ _ hK ls H locs hl hR hS => ?_)
    refine lv_land hc.1 hc.2.1 hd ?_
    rw [← hn]
    exact hK ls H locs hl hR hS
  · cases ho
def xi_lor (k1 : Nat) : xI := fun lv st h nc ns => match st with
  | .long z :: .long x :: r => some (.inl (k1, lv, .long (x ||| z) :: r, h, nc, ns))
  | _ => none
theorem xo_lor (hd : decode y.2.1 (pcs k) = .ok (.lor, 1)) (hn : pcs k1 = pcs k + 1) : x_ok u mt y pcs k (xi_lor k1) := by
  intro p l e R s m args below meth c hc hf0 hl0 lv st h nc ns o ho
  unfold xi_lor at ho
  split at ho
  · cases ho
    refine x_go (Nat.le_refl _) (Nat.le_refl _) (fun Q _ _ hK ls H locs hl hR hS => ?_)
    refine lv_lor hc.1 hc.2.1 hd ?_
    rw [← hn]
    exact hK ls H locs hl hR hS
  · cases ho
def xi_lxor (k1 : Nat) : xI := fun lv st h nc ns => match st with
  | .long z :: .long x :: r => some (.inl (k1, lv, .long (x ^^^ z) :: r, h, nc, ns))
  | _ => none
theorem xo_lxor (hd : decode y.2.1 (pcs k) = .ok (.lxor, 1)) (hn : pcs k1 = pcs k + 1) : x_ok u mt y pcs k (xi_lxor k1) := by
  intro p l e R s m args below meth c hc hf0 hl0 lv st h nc ns o ho
  unfold xi_lxor at ho
  split at ho
  · cases ho
    refine x_go (Nat.le_refl _) (Nat.le_refl _) (fun Q _ _ hK ls H locs hl hR hS => ?_)
    refine lv_lxor hc.1 hc.2.1 hd ?_
    rw [← hn]
    exact hK ls H locs hl hR hS
  · cases ho
def xi_lshl (k1 : Nat) : xI := fun lv st h nc ns => match st with
  | .int z :: .long x :: r => some (.inl (k1, lv, .long (x <<< (z.toInt64 &&& 63)) :: r, h, nc, ns))
  | _ => none
theorem xo_lshl (hd : decode y.2.1 (pcs k) = .ok (.lshl, 1)) (hn : pcs k1 = pcs k + 1) : x_ok u mt y pcs k (xi_lshl k1) := by
  intro p l e R s m args below meth c hc hf0 hl0 lv st h nc ns o ho
  unfold xi_lshl at ho
  split at ho
  · cases ho
    refine x_go (Nat.le_refl _) (Nat.le_refl _) (fun Q _ _ hK ls H locs hl hR hS => ?_)
    refine lv_lshl hc.1 hc.2.1 hd rfl ?_
    rw [← hn]
    exact hK ls H locs hl hR hS
  · cases ho
def xi_lshr (k1 : Nat) : xI := fun lv st h nc ns => match st with
  | .int z :: .long x :: r => some (.inl (k1, lv, .long (x >>> (z.toInt64 &&& 63)) :: r, h, nc, ns))
  | _ => none
theorem xo_lshr (hd : decode y.2.1 (pcs k) = .ok (.lshr, 1)) (hn : pcs k1 = pcs k + 1) : x_ok u mt y pcs k (xi_lshr k1) := by
  intro p l e R s m args below meth c hc hf0 hl0 lv st h nc ns o ho
  unfold xi_lshr at ho
  split at ho
  · cases ho
    refine x_go (Nat.le_refl _) (Nat.le_refl _) (fun Q _ _ hK ls H locs hl hR hS => ?_)
    refine lv_lshr hc.1 hc.2.1 hd rfl ?_
    rw [← hn]
    exact hK ls H locs hl hR hS
  · cases ho
def xi_lushr (k1 : Nat) : xI := fun lv st h nc ns => match st with
  | .int z :: .long x :: r => some (.inl (k1, lv, .long (x.toUInt64 >>> (z.toInt64.toUInt64 &&& Int64.toUInt64 63)).toInt64 :: r, h, nc, ns))
  | _ => none
theorem xo_lushr (hd : decode y.2.1 (pcs k) = .ok (.lushr, 1)) (hn : pcs k1 = pcs k + 1) : x_ok u mt y pcs k (xi_lushr k1) := by
  intro p l e R s m args below meth c hc hf0 hl0 lv st h nc ns o ho
  unfold xi_lushr at ho
  split at ho
  · cases ho
    refine x_go (Nat.le_refl _) (Nat.le_refl _) (fun Q _ _ hK ls H locs hl hR hS => ?_)
    refine lv_lushr hc.1 hc.2.1 hd rfl ?_
    rw [← hn]
    exact hK ls H locs hl hR hS
  · cases ho
def xi_lcmp (k1 : Nat) : xI := fun lv st h nc ns => match st with
  | .long z :: .long x :: r => some (.inl (k1, lv, .int (lg_cmp x z) :: r, h, nc, ns))
  | _ => none
theorem xo_lcmp (hd : decode y.2.1 (pcs k) = .ok (.lcmp, 1)) (hn : pcs k1 = pcs k + 1) : x_ok u mt y pcs k (xi_lcmp k1) := by
  intro p l e R s m args below meth c hc hf0 hl0 lv st h nc ns o ho
  unfold xi_lcmp at ho
  split at ho
  · cases ho
    refine x_go (Nat.le_refl _) (Nat.le_refl _) (fun Q _ _ hK ls H locs hl hR hS => ?_)
    refine W.lcmp hc.1 hc.2.1 hd ?_
    rw [← hn]
    exact hK ls H locs hl hR hS
  · cases ho
def xi_ineg (k1 : Nat) : xI := fun lv st h nc ns => match st with
  | .int x :: r => some (.inl (k1, lv, .int (-x) :: r, h, nc, ns))
  | _ => none
theorem xo_ineg (hd : decode y.2.1 (pcs k) = .ok (.ineg, 1)) (hn : pcs k1 = pcs k + 1) : x_ok u mt y pcs k (xi_ineg k1) := by
  intro p l e R s m args below meth c hc hf0 hl0 lv st h nc ns o ho
  unfold xi_ineg at ho
  split at ho
  · cases ho
    refine x_go (Nat.le_refl _) (Nat.le_refl _) (fun Q _ _ hK ls H locs hl hR hS => ?_)
    refine lv_ineg hc.1 hc.2.1 hd ?_
    rw [← hn]
    exact hK ls H locs hl hR hS
  · cases ho
def xi_i2l (k1 : Nat) : xI := fun lv st h nc ns => match st with
  | .int x :: r => some (.inl (k1, lv, .long (x.toInt64) :: r, h, nc, ns))
  | _ => none
theorem xo_i2l (hd : decode y.2.1 (pcs k) = .ok (.i2l, 1)) (hn : pcs k1 = pcs k + 1) : x_ok u mt y pcs k (xi_i2l k1) := by
  intro p l e R s m args below meth c hc hf0 hl0 lv st h nc ns o ho
  unfold xi_i2l at ho
  split at ho
  · cases ho
    refine x_go (Nat.le_refl _) (Nat.le_refl _) (fun Q _ _ hK ls H locs hl hR hS => ?_)
    refine lv_i2l hc.1 hc.2.1 hd rfl ?_
    rw [← hn]
    exact hK ls H locs hl hR hS
  · cases ho
def xi_l2i (k1 : Nat) : xI := fun lv st h nc ns => match st with
  | .long x :: r => some (.inl (k1, lv, .int (x.toInt32) :: r, h, nc, ns))
  | _ => none
theorem xo_l2i (hd : decode y.2.1 (pcs k) = .ok (.l2i, 1)) (hn : pcs k1 = pcs k + 1) : x_ok u mt y pcs k (xi_l2i k1) := by
  intro p l e R s m args below meth c hc hf0 hl0 lv st h nc ns o ho
  unfold xi_l2i at ho
  split at ho
  · cases ho
    refine x_go (Nat.le_refl _) (Nat.le_refl _) (fun Q _ _ hK ls H locs hl hR hS => ?_)
    refine lv_l2i hc.1 hc.2.1 hd rfl ?_
    rw [← hn]
    exact hK ls H locs hl hR hS
  · cases ho
def xi_i2b (k1 : Nat) : xI := fun lv st h nc ns => match st with
  | .int x :: r => some (.inl (k1, lv, .int (x.toInt8.toInt32) :: r, h, nc, ns))
  | _ => none
theorem xo_i2b (hd : decode y.2.1 (pcs k) = .ok (.i2b, 1)) (hn : pcs k1 = pcs k + 1) : x_ok u mt y pcs k (xi_i2b k1) := by
  intro p l e R s m args below meth c hc hf0 hl0 lv st h nc ns o ho
  unfold xi_i2b at ho
  split at ho
  · cases ho
    refine x_go (Nat.le_refl _) (Nat.le_refl _) (fun Q _ _ hK ls H locs hl hR hS => ?_)
    refine lv_i2b hc.1 hc.2.1 hd rfl ?_
    rw [← hn]
    exact hK ls H locs hl hR hS
  · cases ho
def xi_i2s (k1 : Nat) : xI := fun lv st h nc ns => match st with
  | .int x :: r => some (.inl (k1, lv, .int (x.toInt16.toInt32) :: r, h, nc, ns))
  | _ => none
theorem xo_i2s (hd : decode y.2.1 (pcs k) = .ok (.i2s, 1)) (hn : pcs k1 = pcs k + 1) : x_ok u mt y pcs k (xi_i2s k1) := by
  intro p l e R s m args below meth c hc hf0 hl0 lv st h nc ns o ho
  unfold xi_i2s at ho
  split at ho
  · cases ho
    refine x_go (Nat.le_refl _) (Nat.le_refl _) (fun Q _ _ hK ls H locs hl hR hS => ?_)
    refine lv_i2s hc.1 hc.2.1 hd rfl ?_
    rw [← hn]
    exact hK ls H locs hl hR hS
  · cases ho
def xi_i2c (k1 : Nat) : xI := fun lv st h nc ns => match st with
  | .int x :: r => some (.inl (k1, lv, .int ((x.toUInt32 % 65536).toInt32) :: r, h, nc, ns))
  | _ => none
theorem xo_i2c (hd : decode y.2.1 (pcs k) = .ok (.i2c, 1)) (hn : pcs k1 = pcs k + 1) : x_ok u mt y pcs k (xi_i2c k1) := by
  intro p l e R s m args below meth c hc hf0 hl0 lv st h nc ns o ho
  unfold xi_i2c at ho
  split at ho
  · cases ho
    refine x_go (Nat.le_refl _) (Nat.le_refl _) (fun Q _ _ hK ls H locs hl hR hS => ?_)
    refine lv_i2c hc.1 hc.2.1 hd rfl ?_
    rw [← hn]
    exact hK ls H locs hl hR hS
  · cases ho
def xi_idiv (k1 : Nat) : xI := fun lv st h nc ns => match st with
  | .int z :: .int x :: r => if z = 0 then none else some (.inl (k1, lv, .int (x / z) :: r, h, nc, ns))
  | _ => none
theorem xo_idiv (hd : decode y.2.1 (pcs k) = .ok (.idiv, 1)) (hn : pcs k1 = pcs k + 1) : x_ok u mt y pcs k (xi_idiv k1) := by
  intro p l e R s m args below meth c hc hf0 hl0 lv st h nc ns o ho
  unfold xi_idiv at ho
  split at ho
  · split at ho
    · cases ho
    · rename_i hz
      cases ho
      refine x_go (Nat.le_refl _) (Nat.le_refl _) (fun Q _ _ hK ls H locs hl hR hS => ?_)
      refine lv_idiv hc.1 hc.2.1 hd hz ?_
      rw [← hn]
      exact hK ls H locs hl hR hS
  · cases ho
def xi_irem (k1 : Nat) : xI := fun lv st h nc ns => match st with
  | .int z :: .int x :: r => if z = 0 then none else some (.inl (k1, lv, .int (x - x / z * z) :: r, h, nc, ns))
  | _ => none
theorem xo_irem (hd : decode y.2.1 (pcs k) = .ok (.irem, 1)) (hn : pcs k1 = pcs k + 1) : x_ok u mt y pcs k (xi_irem k1) := by
  intro p l e R s m args below meth c hc hf0 hl0 lv st h nc ns o ho
  unfold xi_irem at ho
  split at ho
  · split at ho
    · cases ho
    · rename_i hz
      cases ho
      refine x_go (Nat.le_refl _) (Nat.le_refl _) (fun Q _ _ hK ls H locs hl hR hS => ?_)
      refine lv_irem hc.1 hc.2.1 hd hz ?_
      rw [← hn]
      exact hK ls H locs hl hR hS
  · cases ho
def xi_ldiv (k1 : Nat) : xI := fun lv st h nc ns => match st with
  | .long z :: .long x :: r => if z = 0 then none else some (.inl (k1, lv, .long (x / z) :: r, h, nc, ns))
  | _ => none
theorem xo_ldiv (hd : decode y.2.1 (pcs k) = .ok (.ldiv, 1)) (hn : pcs k1 = pcs k + 1) : x_ok u mt y pcs k (xi_ldiv k1) := by
  intro p l e R s m args below meth c hc hf0 hl0 lv st h nc ns o ho
  unfold xi_ldiv at ho
  split at ho
  · split at ho
    · cases ho
    · rename_i hz
      cases ho
      refine x_go (Nat.le_refl _) (Nat.le_refl _) (fun Q _ _ hK ls H locs hl hR hS => ?_)
      refine lv_ldiv hc.1 hc.2.1 hd hz ?_
      rw [← hn]
      exact hK ls H locs hl hR hS
  · cases ho
def xi_lrem (k1 : Nat) : xI := fun lv st h nc ns => match st with
  | .long z :: .long x :: r => if z = 0 then none else some (.inl (k1, lv, .long (x - x / z * z) :: r, h, nc, ns))
  | _ => none
theorem xo_lrem (hd : decode y.2.1 (pcs k) = .ok (.lrem, 1)) (hn : pcs k1 = pcs k + 1) : x_ok u mt y pcs k (xi_lrem k1) := by
  intro p l e R s m args below meth c hc hf0 hl0 lv st h nc ns o ho
  unfold xi_lrem at ho
  split at ho
  · split at ho
    · cases ho
    · rename_i hz
      cases ho
      refine x_go (Nat.le_refl _) (Nat.le_refl _) (fun Q _ _ hK ls H locs hl hR hS => ?_)
      refine lv_lrem hc.1 hc.2.1 hd hz ?_
      rw [← hn]
      exact hK ls H locs hl hR hS
  · cases ho
def xi_iconst (k1 : Nat) (v : Int32) : xI := fun lv st h nc ns => some (.inl (k1, lv, .int v :: st, h, nc, ns))
theorem xo_iconst {n : Int} {v : Int32} (hv : Int32.ofInt n = v) (hd : decode y.2.1 (pcs k) = .ok (.iconst n, 1)) (hn : pcs k1 = pcs k + 1) : x_ok u mt y pcs k (xi_iconst k1 v) := by
  intro p l e R s m args below meth c hc hf0 hl0 lv st h nc ns o ho
  cases ho
  refine x_go (Nat.le_refl _) (Nat.le_refl _) (fun Q _ _ hK ls H locs hl hR hS => ?_)
  refine lv_iconst hc.1 hc.2.1 hd hv ?_
  rw [← hn]
  exact hK ls H locs hl hR hS
def xi_bipush (k1 : Nat) (v : Int32) : xI := fun lv st h nc ns => some (.inl (k1, lv, .int v :: st, h, nc, ns))
theorem xo_bipush {n : Int} {v : Int32} (hv : (Int8.ofInt n).toInt32 = v) (hd : decode y.2.1 (pcs k) = .ok (.bipush n, 2)) (hn : pcs k1 = pcs k + 2) : x_ok u mt y pcs k (xi_bipush k1 v) := by
  intro p l e R s m args below meth c hc hf0 hl0 lv st h nc ns o ho
  cases ho
  refine x_go (Nat.le_refl _) (Nat.le_refl _) (fun Q _ _ hK ls H locs hl hR hS => ?_)
  refine lv_bipush hc.1 hc.2.1 hd hv ?_
  rw [← hn]
  exact hK ls H locs hl hR hS
def xi_sipush (k1 : Nat) (v : Int32) : xI := fun lv st h nc ns => some (.inl (k1, lv, .int v :: st, h, nc, ns))
theorem xo_sipush {n : Int} {v : Int32} (hv : (Int16.ofInt n).toInt32 = v) (hd : decode y.2.1 (pcs k) = .ok (.sipush n, 3)) (hn : pcs k1 = pcs k + 3) : x_ok u mt y pcs k (xi_sipush k1 v) := by
  intro p l e R s m args below meth c hc hf0 hl0 lv st h nc ns o ho
  cases ho
  refine x_go (Nat.le_refl _) (Nat.le_refl _) (fun Q _ _ hK ls H locs hl hR hS => ?_)
  refine lv_sipush hc.1 hc.2.1 hd hv ?_
  rw [← hn]
  exact hK ls H locs hl hR hS
def xi_lconst (k1 : Nat) (v : Int64) : xI := fun lv st h nc ns => some (.inl (k1, lv, .long v :: st, h, nc, ns))
theorem xo_lconst {n : Fin 2} {v : Int64} (hv : Int64.ofNat (n : Nat) = v) (hd : decode y.2.1 (pcs k) = .ok (.lconst n, 1)) (hn : pcs k1 = pcs k + 1) : x_ok u mt y pcs k (xi_lconst k1 v) := by
  intro p l e R s m args below meth c hc hf0 hl0 lv st h nc ns o ho
  cases ho
  refine x_go (Nat.le_refl _) (Nat.le_refl _) (fun Q _ _ hK ls H locs hl hR hS => ?_)
  refine lv_lconst hc.1 hc.2.1 hd hv ?_
  rw [← hn]
  exact hK ls H locs hl hR hS
def xi_null (k1 : Nat) : xI := fun lv st h nc ns => some (.inl (k1, lv, .null :: st, h, nc, ns))
theorem xo_null (hd : decode y.2.1 (pcs k) = .ok (.aconst_null, 1)) (hn : pcs k1 = pcs k + 1) : x_ok u mt y pcs k (xi_null k1) := by
  intro p l e R s m args below meth c hc hf0 hl0 lv st h nc ns o ho
  cases ho
  refine x_go (Nat.le_refl _) (Nat.le_refl _) (fun Q _ _ hK ls H locs hl hR hS => ?_)
  refine lv_null hc.1 hc.2.1 hd ?_
  rw [← hn]
  exact hK ls H locs hl hR hS
def xi_ldc (k1 : Nat) (v : Int32) : xI := fun lv st h nc ns => some (.inl (k1, lv, .int v :: st, h, nc, ns))
theorem xo_ldc {i : Nat} {v : Int32} (hw : Cond.constant y.1.cls i v ∈ xp_G u) (hd : decode y.2.1 (pcs k) = .ok (.ldc i, 2)) (hn : pcs k1 = pcs k + 2) : x_ok u mt y pcs k (xi_ldc k1 v) := by
  intro p l e R s m args below meth c hc hf0 hl0 lv st h nc ns o ho
  cases ho
  refine x_go (Nat.le_refl _) (Nat.le_refl _) (fun Q _ _ hK ls H locs hl hR hS => ?_)
  refine lv_ldc hc.1 hc.2.1 hc.2.2.2.1 (hc.2.2.2.2.1 _ hw) hd ?_
  rw [← hn]
  exact hK ls H locs hl hR hS
def xi_ldcw (k1 : Nat) (v : Int32) : xI := fun lv st h nc ns => some (.inl (k1, lv, .int v :: st, h, nc, ns))
theorem xo_ldcw {i : Nat} {v : Int32} (hw : Cond.constant y.1.cls i v ∈ xp_G u) (hd : decode y.2.1 (pcs k) = .ok (.ldc_w i, 3)) (hn : pcs k1 = pcs k + 3) : x_ok u mt y pcs k (xi_ldcw k1 v) := by
  intro p l e R s m args below meth c hc hf0 hl0 lv st h nc ns o ho
  cases ho
  refine x_go (Nat.le_refl _) (Nat.le_refl _) (fun Q _ _ hK ls H locs hl hR hS => ?_)
  refine lv_ldcw hc.1 hc.2.1 hc.2.2.2.1 (hc.2.2.2.2.1 _ hw) hd ?_
  rw [← hn]
  exact hK ls H locs hl hR hS
def xi_ldc2 (k1 : Nat) (v : Int64) : xI := fun lv st h nc ns => some (.inl (k1, lv, .long v :: st, h, nc, ns))
theorem xo_ldc2 {i : Nat} {v : Int64} (hw : Cond.constantLong y.1.cls i v ∈ xp_G u) (hd : decode y.2.1 (pcs k) = .ok (.ldc2_w i, 3)) (hn : pcs k1 = pcs k + 3) : x_ok u mt y pcs k (xi_ldc2 k1 v) := by
  intro p l e R s m args below meth c hc hf0 hl0 lv st h nc ns o ho
  cases ho
  refine x_go (Nat.le_refl _) (Nat.le_refl _) (fun Q _ _ hK ls H locs hl hR hS => ?_)
  refine lv_ldc2 hc.1 hc.2.1 hc.2.2.2.1 (hc.2.2.2.2.1 _ hw) hd ?_
  rw [← hn]
  exact hK ls H locs hl hR hS
def xi_dup (k1 : Nat) : xI := fun lv st h nc ns => match st with
  | a :: r => if a.category = 1 then some (.inl (k1, lv, a :: a :: r, h, nc, ns)) else none
  | _ => none
theorem xo_dup (hd : decode y.2.1 (pcs k) = .ok (.dup, 1)) (hn : pcs k1 = pcs k + 1) : x_ok u mt y pcs k (xi_dup k1) := by
  intro p l e R s m args below meth c hc hf0 hl0 lv st h nc ns o ho
  unfold xi_dup at ho
  split at ho
  · split at ho
    · rename_i hz
      cases ho
      refine x_go (Nat.le_refl _) (Nat.le_refl _) (fun Q _ _ hK ls H locs hl hR hS => ?_)
      refine lv_dup hc.1 hc.2.1 hd (by rw [x_cat]; exact hz) ?_
      rw [← hn]
      exact hK ls H locs hl hR hS
    · cases ho
  · cases ho
def xi_pop (k1 : Nat) : xI := fun lv st h nc ns => match st with
  | a :: r => if a.category = 1 then some (.inl (k1, lv, r, h, nc, ns)) else none
  | _ => none
theorem xo_pop (hd : decode y.2.1 (pcs k) = .ok (.pop, 1)) (hn : pcs k1 = pcs k + 1) : x_ok u mt y pcs k (xi_pop k1) := by
  intro p l e R s m args below meth c hc hf0 hl0 lv st h nc ns o ho
  unfold xi_pop at ho
  split at ho
  · split at ho
    · rename_i hz
      cases ho
      refine x_go (Nat.le_refl _) (Nat.le_refl _) (fun Q _ _ hK ls H locs hl hR hS => ?_)
      refine lv_pop hc.1 hc.2.1 hd (by rw [x_cat]; exact hz) ?_
      rw [← hn]
      exact hK ls H locs hl hR hS
    · cases ho
  · cases ho
def xi_dup_x1 (k1 : Nat) : xI := fun lv st h nc ns => match st with
  | a :: b :: r => if a.category = 1 ∧ b.category = 1 then some (.inl (k1, lv, a :: b :: a :: r, h, nc, ns)) else none
  | _ => none
theorem xo_dup_x1 (hd : decode y.2.1 (pcs k) = .ok (.dup_x1, 1)) (hn : pcs k1 = pcs k + 1) : x_ok u mt y pcs k (xi_dup_x1 k1) := by
  intro p l e R s m args below meth c hc hf0 hl0 lv st h nc ns o ho
  unfold xi_dup_x1 at ho
  split at ho
  · split at ho
    · rename_i hz
      cases ho
      refine x_go (Nat.le_refl _) (Nat.le_refl _) (fun Q _ _ hK ls H locs hl hR hS => ?_)
      refine lv_dup_x1 hc.1 hc.2.1 hd (by rw [x_cat]; exact hz.1) (by rw [x_cat]; exact hz.2) ?_
      rw [← hn]
      exact hK ls H locs hl hR hS
    · cases ho
  · cases ho
def xi_dup_x2 (k1 : Nat) : xI := fun lv st h nc ns => match st with
  | a :: b :: d :: r => if a.category = 1 ∧ b.category = 1 ∧ d.category = 1 then some (.inl (k1, lv, a :: b :: d :: a :: r, h, nc, ns)) else none
  | _ => none
theorem xo_dup_x2 (hd : decode y.2.1 (pcs k) = .ok (.dup_x2, 1)) (hn : pcs k1 = pcs k + 1) : x_ok u mt y pcs k (xi_dup_x2 k1) := by
  intro p l e R s m args below meth c hc hf0 hl0 lv st h nc ns o ho
  unfold xi_dup_x2 at ho
  split at ho
  · split at ho
    · rename_i hz
      cases ho
      refine x_go (Nat.le_refl _) (Nat.le_refl _) (fun Q _ _ hK ls H locs hl hR hS => ?_)
      refine lv_dup_x2 hc.1 hc.2.1 hd (by rw [x_cat]; exact hz.1) (by rw [x_cat]; exact hz.2.1) (by rw [x_cat]; exact hz.2.2) ?_
      rw [← hn]
      exact hK ls H locs hl hR hS
    · cases ho
  · cases ho
def xi_dup2 (k1 : Nat) : xI := fun lv st h nc ns => match st with
  | a :: b :: r => if a.category = 1 ∧ b.category = 1 then some (.inl (k1, lv, a :: b :: a :: b :: r, h, nc, ns)) else none
  | _ => none
theorem xo_dup2 (hd : decode y.2.1 (pcs k) = .ok (.dup2, 1)) (hn : pcs k1 = pcs k + 1) : x_ok u mt y pcs k (xi_dup2 k1) := by
  intro p l e R s m args below meth c hc hf0 hl0 lv st h nc ns o ho
  unfold xi_dup2 at ho
  split at ho
  · split at ho
    · rename_i hz
      cases ho
      refine x_go (Nat.le_refl _) (Nat.le_refl _) (fun Q _ _ hK ls H locs hl hR hS => ?_)
      refine lv_dup2_11 hc.1 hc.2.1 hd (by rw [x_cat]; exact hz.1) (by rw [x_cat]; exact hz.2) ?_
      rw [← hn]
      exact hK ls H locs hl hR hS
    · cases ho
  · cases ho
def xi_dup2l (k1 : Nat) : xI := fun lv st h nc ns => match st with
  | a :: r => if a.category = 2 then some (.inl (k1, lv, a :: a :: r, h, nc, ns)) else none
  | _ => none
theorem xo_dup2l (hd : decode y.2.1 (pcs k) = .ok (.dup2, 1)) (hn : pcs k1 = pcs k + 1) : x_ok u mt y pcs k (xi_dup2l k1) := by
  intro p l e R s m args below meth c hc hf0 hl0 lv st h nc ns o ho
  unfold xi_dup2l at ho
  split at ho
  · split at ho
    · rename_i hz
      cases ho
      refine x_go (Nat.le_refl _) (Nat.le_refl _) (fun Q _ _ hK ls H locs hl hR hS => ?_)
      refine lv_dup2_2 hc.1 hc.2.1 hd (by rw [x_cat]; exact hz) ?_
      rw [← hn]
      exact hK ls H locs hl hR hS
    · cases ho
  · cases ho
def xi_pop2 (k1 : Nat) : xI := fun lv st h nc ns => match st with
  | a :: r => if a.category = 2 then some (.inl (k1, lv, r, h, nc, ns)) else none
  | _ => none
theorem xo_pop2 (hd : decode y.2.1 (pcs k) = .ok (.pop2, 1)) (hn : pcs k1 = pcs k + 1) : x_ok u mt y pcs k (xi_pop2 k1) := by
  intro p l e R s m args below meth c hc hf0 hl0 lv st h nc ns o ho
  unfold xi_pop2 at ho
  split at ho
  · split at ho
    · rename_i hz
      cases ho
      refine x_go (Nat.le_refl _) (Nat.le_refl _) (fun Q _ _ hK ls H locs hl hR hS => ?_)
      refine lv_pop2_2 hc.1 hc.2.1 hd (by rw [x_cat]; exact hz) ?_
      rw [← hn]
      exact hK ls H locs hl hR hS
    · cases ho
  · cases ho
def xi_pop2_11 (k1 : Nat) : xI := fun lv st h nc ns => match st with
  | a :: b :: r => if a.category = 1 ∧ b.category = 1 then some (.inl (k1, lv, r, h, nc, ns)) else none
  | _ => none
theorem xo_pop2_11 (hd : decode y.2.1 (pcs k) = .ok (.pop2, 1)) (hn : pcs k1 = pcs k + 1) : x_ok u mt y pcs k (xi_pop2_11 k1) := by
  intro p l e R s m args below meth c hc hf0 hl0 lv st h nc ns o ho
  unfold xi_pop2_11 at ho
  split at ho
  · split at ho
    · rename_i hz
      cases ho
      refine x_go (Nat.le_refl _) (Nat.le_refl _) (fun Q _ _ hK ls H locs hl hR hS => ?_)
      refine lv_pop2_11 hc.1 hc.2.1 hd (by rw [x_cat]; exact hz.1) (by rw [x_cat]; exact hz.2) ?_
      rw [← hn]
      exact hK ls H locs hl hR hS
    · cases ho
  · cases ho
def xi_iload (k1 i : Nat) : xI := fun lv st h nc ns => match x_get lv i with
  | some (.int x) => some (.inl (k1, lv, .int x :: st, h, nc, ns))
  | _ => none
theorem xo_iload {i : Nat} (hd : decode y.2.1 (pcs k) = .ok (.iload i, 2)) (hn : pcs k1 = pcs k + 2) : x_ok u mt y pcs k (xi_iload k1 i) := by
  intro p l e R s m args below meth c hc hf0 hl0 lv st h nc ns o ho
  unfold xi_iload at ho
  split at ho
  · rename_i hx
    cases ho
    refine x_go (Nat.le_refl _) (Nat.le_refl _) (fun Q _ _ hK ls H locs hl hR hS => ?_)
    refine lv_iload hc.1 hc.2.1 hd (x_get_at hl hx) ?_
    rw [← hn]
    exact hK ls H locs hl hR hS
  · cases ho
theorem xo_iload_n {i : Nat} {n : Fin 4} (hi : (n : Nat) = i) (hd : decode y.2.1 (pcs k) = .ok (.iload_n n, 1)) (hn : pcs k1 = pcs k + 1) : x_ok u mt y pcs k (xi_iload k1 i) := by
  intro p l e R s m args below meth c hc hf0 hl0 lv st h nc ns o ho
  unfold xi_iload at ho
  split at ho
  · rename_i hx
    cases ho
    refine x_go (Nat.le_refl _) (Nat.le_refl _) (fun Q _ _ hK ls H locs hl hR hS => ?_)
    refine lv_iload_n hc.1 hc.2.1 hd hi (x_get_at hl hx) ?_
    rw [← hn]
    exact hK ls H locs hl hR hS
  · cases ho
def xi_lload (k1 i : Nat) : xI := fun lv st h nc ns => match x_get lv i with
  | some (.long x) => some (.inl (k1, lv, .long x :: st, h, nc, ns))
  | _ => none
theorem xo_lload {i : Nat} (hd : decode y.2.1 (pcs k) = .ok (.lload i, 2)) (hn : pcs k1 = pcs k + 2) : x_ok u mt y pcs k (xi_lload k1 i) := by
  intro p l e R s m args below meth c hc hf0 hl0 lv st h nc ns o ho
  unfold xi_lload at ho
  split at ho
  · rename_i hx
    cases ho
    refine x_go (Nat.le_refl _) (Nat.le_refl _) (fun Q _ _ hK ls H locs hl hR hS => ?_)
    refine lv_lload hc.1 hc.2.1 hd (x_get_at hl hx) ?_
    rw [← hn]
    exact hK ls H locs hl hR hS
  · cases ho
theorem xo_lload_n {i : Nat} {n : Fin 4} (hi : (n : Nat) = i) (hd : decode y.2.1 (pcs k) = .ok (.lload_n n, 1)) (hn : pcs k1 = pcs k + 1) : x_ok u mt y pcs k (xi_lload k1 i) := by
  intro p l e R s m args below meth c hc hf0 hl0 lv st h nc ns o ho
  unfold xi_lload at ho
  split at ho
  · rename_i hx
    cases ho
    refine x_go (Nat.le_refl _) (Nat.le_refl _) (fun Q _ _ hK ls H locs hl hR hS => ?_)
    refine lv_lload_n hc.1 hc.2.1 hd hi (x_get_at hl hx) ?_
    rw [← hn]
    exact hK ls H locs hl hR hS
  · cases ho
def xi_aload (k1 i : Nat) : xI := fun lv st h nc ns => match x_get lv i with
  | some (.ref x) => some (.inl (k1, lv, .ref x :: st, h, nc, ns))
  | some (.null) => some (.inl (k1, lv, .null :: st, h, nc, ns))
  | _ => none
theorem xo_aload {i : Nat} (hd : decode y.2.1 (pcs k) = .ok (.aload i, 2)) (hn : pcs k1 = pcs k + 2) : x_ok u mt y pcs k (xi_aload k1 i) := by
  intro p l e R s m args below meth c hc hf0 hl0 lv st h nc ns o ho
  unfold xi_aload at ho
  split at ho
  · rename_i hx
    cases ho
    refine x_go (Nat.le_refl _) (Nat.le_refl _) (fun Q _ _ hK ls H locs hl hR hS => ?_)
    refine lv_aload hc.1 hc.2.1 hd (x_get_at hl hx) ?_
    rw [← hn]
    exact hK ls H locs hl hR hS
  · rename_i hx
    cases ho
    refine x_go (Nat.le_refl _) (Nat.le_refl _) (fun Q _ _ hK ls H locs hl hR hS => ?_)
    refine lv_aloadN hc.1 hc.2.1 hd (x_get_at hl hx) ?_
    rw [← hn]
    exact hK ls H locs hl hR hS
  · cases ho
theorem xo_aload_n {i : Nat} {n : Fin 4} (hi : (n : Nat) = i) (hd : decode y.2.1 (pcs k) = .ok (.aload_n n, 1)) (hn : pcs k1 = pcs k + 1) : x_ok u mt y pcs k (xi_aload k1 i) := by
  intro p l e R s m args below meth c hc hf0 hl0 lv st h nc ns o ho
  unfold xi_aload at ho
  split at ho
  · rename_i hx
    cases ho
    refine x_go (Nat.le_refl _) (Nat.le_refl _) (fun Q _ _ hK ls H locs hl hR hS => ?_)
    refine lv_aload_n hc.1 hc.2.1 hd hi (x_get_at hl hx) ?_
    rw [← hn]
    exact hK ls H locs hl hR hS
  · rename_i hx
    cases ho
    refine x_go (Nat.le_refl _) (Nat.le_refl _) (fun Q _ _ hK ls H locs hl hR hS => ?_)
    refine lv_aload_nN hc.1 hc.2.1 hd hi (x_get_at hl hx) ?_
    rw [← hn]
    exact hK ls H locs hl hR hS
  · cases ho
def xi_istore (k1 i nL : Nat) : xI := fun lv st h nc ns => match st with
  | .int x :: r => if i < nL then some (.inl (k1, x_st1 lv i (.int x), r, h, nc, ns)) else none
  | _ => none
theorem xo_istore {i : Nat} (hd : decode y.2.1 (pcs k) = .ok (.istore i, 2)) (hn : pcs k1 = pcs k + 2) : x_ok u mt y pcs k (xi_istore k1 i y.2.2.1) := by
  intro p l e R s m args below meth c hc hf0 hl0 lv st h nc ns o ho
  unfold xi_istore at ho
  split at ho
  · rename_i x1 r1
    split at ho
    · rename_i hz
      cases ho
      refine x_go (Nat.le_refl _) (Nat.le_refl _) (fun Q _ _ hK ls H locs hl hR hS => ?_)
      refine lv_istore hc.1 hc.2.1 hd hl hz (x_l_st1 (xp_ad u) lv i (.int x1)) (fun ls1 hl1 => ?_)
      rw [← hn]
      exact hK ls1 H locs hl1 hR hS
    · cases ho
  · cases ho
theorem xo_istore_n {i : Nat} {n : Fin 4} (hi : (n : Nat) = i) (hd : decode y.2.1 (pcs k) = .ok (.istore_n n, 1)) (hn : pcs k1 = pcs k + 1) : x_ok u mt y pcs k (xi_istore k1 i y.2.2.1) := by
  intro p l e R s m args below meth c hc hf0 hl0 lv st h nc ns o ho
  unfold xi_istore at ho
  split at ho
  · rename_i x1 r1
    split at ho
    · rename_i hz
      cases ho
      refine x_go (Nat.le_refl _) (Nat.le_refl _) (fun Q _ _ hK ls H locs hl hR hS => ?_)
      refine lv_istore_n hc.1 hc.2.1 hd hi hl hz (x_l_st1 (xp_ad u) lv i (.int x1)) (fun ls1 hl1 => ?_)
      rw [← hn]
      exact hK ls1 H locs hl1 hR hS
    · cases ho
  · cases ho
def xi_lstore (k1 i nL : Nat) : xI := fun lv st h nc ns => match st with
  | .long x :: r => if i + 1 < nL then some (.inl (k1, x_st2 lv i (.long x), r, h, nc, ns)) else none
  | _ => none
theorem xo_lstore {i : Nat} (hd : decode y.2.1 (pcs k) = .ok (.lstore i, 2)) (hn : pcs k1 = pcs k + 2) : x_ok u mt y pcs k (xi_lstore k1 i y.2.2.1) := by
  intro p l e R s m args below meth c hc hf0 hl0 lv st h nc ns o ho
  unfold xi_lstore at ho
  split at ho
  · rename_i x1 r1
    split at ho
    · rename_i hz
      cases ho
      refine x_go (Nat.le_refl _) (Nat.le_refl _) (fun Q _ _ hK ls H locs hl hR hS => ?_)
      refine lv_lstore hc.1 hc.2.1 hd hl hz (x_l_st2 (xp_ad u) lv i (.long x1)) (fun ls1 hl1 => ?_)
      rw [← hn]
      exact hK ls1 H locs hl1 hR hS
    · cases ho
  · cases ho
theorem xo_lstore_n {i : Nat} {n : Fin 4} (hi : (n : Nat) = i) (hd : decode y.2.1 (pcs k) = .ok (.lstore_n n, 1)) (hn : pcs k1 = pcs k + 1) : x_ok u mt y pcs k (xi_lstore k1 i y.2.2.1) := by
  intro p l e R s m args below meth c hc hf0 hl0 lv st h nc ns o ho
  unfold xi_lstore at ho
  split at ho
  · rename_i x1 r1
    split at ho
    · rename_i hz
      cases ho
      refine x_go (Nat.le_refl _) (Nat.le_refl _) (fun Q _ _ hK ls H locs hl hR hS => ?_)
      refine lv_lstore_n hc.1 hc.2.1 hd hi hl hz (x_l_st2 (xp_ad u) lv i (.long x1)) (fun ls1 hl1 => ?_)
      rw [← hn]
      exact hK ls1 H locs hl1 hR hS
    · cases ho
  · cases ho
def xi_astore (k1 i nL : Nat) : xI := fun lv st h nc ns => match st with
  | .ref x :: r => if i < nL then some (.inl (k1, x_st1 lv i (.ref x), r, h, nc, ns)) else none
  | .null :: r => if i < nL then some (.inl (k1, x_st1 lv i (.null), r, h, nc, ns)) else none
  | _ => none
theorem xo_astore {i : Nat} (hd : decode y.2.1 (pcs k) = .ok (.astore i, 2)) (hn : pcs k1 = pcs k + 2) : x_ok u mt y pcs k (xi_astore k1 i y.2.2.1) := by
  intro p l e R s m args below meth c hc hf0 hl0 lv st h nc ns o ho
  unfold xi_astore at ho
  split at ho
  · rename_i x1 r1
    split at ho
    · rename_i hz
      cases ho
      refine x_go (Nat.le_refl _) (Nat.le_refl _) (fun Q _ _ hK ls H locs hl hR hS => ?_)
      refine lv_astore hc.1 hc.2.1 hd hl hz (x_l_st1 (xp_ad u) lv i (.ref x1)) (fun ls1 hl1 => ?_)
      rw [← hn]
      exact hK ls1 H locs hl1 hR hS
    · cases ho
  · rename_i r1
    split at ho
    · rename_i hz
      cases ho
      refine x_go (Nat.le_refl _) (Nat.le_refl _) (fun Q _ _ hK ls H locs hl hR hS => ?_)
      refine lv_astoreN hc.1 hc.2.1 hd hl hz (x_l_st1 (xp_ad u) lv i (.null)) (fun ls1 hl1 => ?_)
      rw [← hn]
      exact hK ls1 H locs hl1 hR hS
    · cases ho
  · cases ho
theorem xo_astore_n {i : Nat} {n : Fin 4} (hi : (n : Nat) = i) (hd : decode y.2.1 (pcs k) = .ok (.astore_n n, 1)) (hn : pcs k1 = pcs k + 1) : x_ok u mt y pcs k (xi_astore k1 i y.2.2.1) := by
  intro p l e R s m args below meth c hc hf0 hl0 lv st h nc ns o ho
  unfold xi_astore at ho
  split at ho
  · rename_i x1 r1
    split at ho
    · rename_i hz
      cases ho
      refine x_go (Nat.le_refl _) (Nat.le_refl _) (fun Q _ _ hK ls H locs hl hR hS => ?_)
      refine lv_astore_n hc.1 hc.2.1 hd hi hl hz (x_l_st1 (xp_ad u) lv i (.ref x1)) (fun ls1 hl1 => ?_)
      rw [← hn]
      exact hK ls1 H locs hl1 hR hS
    · cases ho
  · rename_i r1
    split at ho
    · rename_i hz
      cases ho
      refine x_go (Nat.le_refl _) (Nat.le_refl _) (fun Q _ _ hK ls H locs hl hR hS => ?_)
      refine lv_astore_nN hc.1 hc.2.1 hd hi hl hz (x_l_st1 (xp_ad u) lv i (.null)) (fun ls1 hl1 => ?_)
      rw [← hn]
      exact hK ls1 H locs hl1 hR hS
    · cases ho
  · cases ho
def xi_iinc (k1 i nL : Nat) (n : Int32) : xI := fun lv st h nc ns => match x_get lv i with
  | some (.int x) => if i < nL then some (.inl (k1, x_st1 lv i (.int (x + n)), st, h, nc, ns)) else none
  | _ => none
theorem xo_iinc {i : Nat} {n : Int} {v : Int32} (hv : Int32.ofInt n = v) (hd : decode y.2.1 (pcs k) = .ok (.iinc i n, 3)) (hn : pcs k1 = pcs k + 3) : x_ok u mt y pcs k (xi_iinc k1 i y.2.2.1 v) := by
  intro p l e R s m args below meth c hc hf0 hl0 lv st h nc ns o ho
  unfold xi_iinc at ho
  split at ho
  · rename_i x hx
    split at ho
    · rename_i hz
      cases ho
      refine x_go (Nat.le_refl _) (Nat.le_refl _) (fun Q _ _ hK ls H locs hl hR hS => ?_)
      obtain ⟨j, hj⟩ := List.getElem?_of_mem (List.mem_map.mpr ⟨(i, .int x), x_get_mem hx, rfl⟩ : (i, x_v (xp_ad u) (.int x)) ∈ x_l (xp_ad u) lv)
      refine lv_iinc (x := x) hc.1 hc.2.1 hd hl hj (by rw [hv]) hz (x_l_st1 (xp_ad u) lv i (.int (x + v))) (fun ls1 hl1 => ?_)
      rw [← hn]
      exact hK ls1 H locs hl1 hR hS
    · cases ho
  · cases ho
theorem xo_iincW {i : Nat} {n : Int} {v : Int32} (hv : Int32.ofInt n = v) (hd : decode y.2.1 (pcs k) = .ok (.iinc i n, 6)) (hn : pcs k1 = pcs k + 6) : x_ok u mt y pcs k (xi_iinc k1 i y.2.2.1 v) := by
  intro p l e R s m args below meth c hc hf0 hl0 lv st h nc ns o ho
  unfold xi_iinc at ho
  split at ho
  · rename_i x hx
    split at ho
    · rename_i hz
      cases ho
      refine x_go (Nat.le_refl _) (Nat.le_refl _) (fun Q _ _ hK ls H locs hl hR hS => ?_)
      obtain ⟨j, hj⟩ := List.getElem?_of_mem (List.mem_map.mpr ⟨(i, .int x), x_get_mem hx, rfl⟩ : (i, x_v (xp_ad u) (.int x)) ∈ x_l (xp_ad u) lv)
      refine lv_iincW (x := x) hc.1 hc.2.1 hd hl hj (by rw [hv]) hz (x_l_st1 (xp_ad u) lv i (.int (x + v))) (fun ls1 hl1 => ?_)
      rw [← hn]
      exact hK ls1 H locs hl1 hR hS
    · cases ho
  · cases ho
def xi_if_eq (kt k1 : Nat) : xI := fun lv st h nc ns => match st with
  | .int x :: r => some (.inl (if x = 0 then kt else k1, lv, r, h, nc, ns))
  | _ => none
theorem xo_if_eq {off : Int} (hd : decode y.2.1 (pcs k) = .ok (.ifCond .eq off, 3)) (ht : (pcs k : Int) + off = (pcs kt : Int)) (hn : pcs k1 = pcs k + 3) : x_ok u mt y pcs k (xi_if_eq kt k1) := by
  intro p l e R s m args below meth c hc hf0 hl0 lv st h nc ns o ho
  unfold xi_if_eq at ho
  split at ho
  · cases ho
    refine x_go (Nat.le_refl _) (Nat.le_refl _) (fun Q _ _ hK ls H locs hl hR hS => ?_)
    dsimp only at hK
    refine lv_if_eq hc.1 hc.2.1 hd ht (fun hx => ?_) (fun hx => ?_)
    · rw [if_pos hx] at hK
      exact hK ls H locs hl hR hS
    · rw [if_neg hx] at hK
      rw [← hn]
      exact hK ls H locs hl hR hS
  · cases ho
def xi_icmp_eq (kt k1 : Nat) : xI := fun lv st h nc ns => match st with
  | .int z :: .int x :: r => some (.inl (if x = z then kt else k1, lv, r, h, nc, ns))
  | _ => none
theorem xo_icmp_eq {off : Int} (hd : decode y.2.1 (pcs k) = .ok (.if_icmp .eq off, 3)) (ht : (pcs k : Int) + off = (pcs kt : Int)) (hn : pcs k1 = pcs k + 3) : x_ok u mt y pcs k (xi_icmp_eq kt k1) := by
  intro p l e R s m args below meth c hc hf0 hl0 lv st h nc ns o ho
  unfold xi_icmp_eq at ho
  split at ho
  · cases ho
    refine x_go (Nat.le_refl _) (Nat.le_refl _) (fun Q _ _ hK ls H locs hl hR hS => ?_)
    dsimp only at hK
    refine lv_icmp_eq hc.1 hc.2.1 hd ht (fun hx => ?_) (fun hx => ?_)
    · rw [if_pos hx] at hK
      exact hK ls H locs hl hR hS
    · rw [if_neg hx] at hK
      rw [← hn]
      exact hK ls H locs hl hR hS
  · cases ho
def xi_if_ne (kt k1 : Nat) : xI := fun lv st h nc ns => match st with
  | .int x :: r => some (.inl (if ¬ x = 0 then kt else k1, lv, r, h, nc, ns))
  | _ => none
theorem xo_if_ne {off : Int} (hd : decode y.2.1 (pcs k) = .ok (.ifCond .ne off, 3)) (ht : (pcs k : Int) + off = (pcs kt : Int)) (hn : pcs k1 = pcs k + 3) : x_ok u mt y pcs k (xi_if_ne kt k1) := by
  intro p l e R s m args below meth c hc hf0 hl0 lv st h nc ns o ho
  unfold xi_if_ne at ho
  split at ho
  · cases ho
    refine x_go (Nat.le_refl _) (Nat.le_refl _) (fun Q _ _ hK ls H locs hl hR hS => ?_)
    dsimp only at hK
    refine lv_if_ne hc.1 hc.2.1 hd ht (fun hx => ?_) (fun hx => ?_)
    · rw [if_pos hx] at hK
      exact hK ls H locs hl hR hS
    · rw [if_neg (not_not_intro hx)] at hK
      rw [← hn]
      exact hK ls H locs hl hR hS
  · cases ho
def xi_icmp_ne (kt k1 : Nat) : xI := fun lv st h nc ns => match st with
  | .int z :: .int x :: r => some (.inl (if ¬ x = z then kt else k1, lv, r, h, nc, ns))
  | _ => none
theorem xo_icmp_ne {off : Int} (hd : decode y.2.1 (pcs k) = .ok (.if_icmp .ne off, 3)) (ht : (pcs k : Int) + off = (pcs kt : Int)) (hn : pcs k1 = pcs k + 3) : x_ok u mt y pcs k (xi_icmp_ne kt k1) := by
  intro p l e R s m args below meth c hc hf0 hl0 lv st h nc ns o ho
  unfold xi_icmp_ne at ho
  split at ho
  · cases ho
    refine x_go (Nat.le_refl _) (Nat.le_refl _) (fun Q _ _ hK ls H locs hl hR hS => ?_)
    dsimp only at hK
    refine lv_icmp_ne hc.1 hc.2.1 hd ht (fun hx => ?_) (fun hx => ?_)
    · rw [if_pos hx] at hK
      exact hK ls H locs hl hR hS
    · rw [if_neg (not_not_intro hx)] at hK
      rw [← hn]
      exact hK ls H locs hl hR hS
  · cases ho
def xi_if_lt (kt k1 : Nat) : xI := fun lv st h nc ns => match st with
  | .int x :: r => some (.inl (if x < 0 then kt else k1, lv, r, h, nc, ns))
  | _ => none
theorem xo_if_lt {off : Int} (hd : decode y.2.1 (pcs k) = .ok (.ifCond .lt off, 3)) (ht : (pcs k : Int) + off = (pcs kt : Int)) (hn : pcs k1 = pcs k + 3) : x_ok u mt y pcs k (xi_if_lt kt k1) := by
  intro p l e R s m args below meth c hc hf0 hl0 lv st h nc ns o ho
  unfold xi_if_lt at ho
  split at ho
  · cases ho
    refine x_go (Nat.le_refl _) (Nat.le_refl _) (fun Q _ _ hK ls H locs hl hR hS => ?_)
    dsimp only at hK
    refine lv_if_lt hc.1 hc.2.1 hd ht (fun hx => ?_) (fun hx => ?_)
    · rw [if_pos hx] at hK
      exact hK ls H locs hl hR hS
    · rw [if_neg hx] at hK
      rw [← hn]
      exact hK ls H locs hl hR hS
  · cases ho
def xi_icmp_lt (kt k1 : Nat) : xI := fun lv st h nc ns => match st with
  | .int z :: .int x :: r => some (.inl (if x < z then kt else k1, lv, r, h, nc, ns))
  | _ => none
theorem xo_icmp_lt {off : Int} (hd : decode y.2.1 (pcs k) = .ok (.if_icmp .lt off, 3)) (ht : (pcs k : Int) + off = (pcs kt : Int)) (hn : pcs k1 = pcs k + 3) : x_ok u mt y pcs k (xi_icmp_lt kt k1) := by
  intro p l e R s m args below meth c hc hf0 hl0 lv st h nc ns o ho
  unfold xi_icmp_lt at ho
  split at ho
  · cases ho
    refine x_go (Nat.le_refl _) (Nat.le_refl _) (fun Q _ _ hK ls H locs hl hR hS => ?_)
    dsimp only at hK
    refine lv_icmp_lt hc.1 hc.2.1 hd ht (fun hx => ?_) (fun hx => ?_)
    · rw [if_pos hx] at hK
      exact hK ls H locs hl hR hS
    · rw [if_neg hx] at hK
      rw [← hn]
      exact hK ls H locs hl hR hS
  · cases ho
def xi_if_ge (kt k1 : Nat) : xI := fun lv st h nc ns => match st with
  | .int x :: r => some (.inl (if 0 ≤ x then kt else k1, lv, r, h, nc, ns))
  | _ => none
theorem xo_if_ge {off : Int} (hd : decode y.2.1 (pcs k) = .ok (.ifCond .ge off, 3)) (ht : (pcs k : Int) + off = (pcs kt : Int)) (hn : pcs k1 = pcs k + 3) : x_ok u mt y pcs k (xi_if_ge kt k1) := by
  intro p l e R s m args below meth c hc hf0 hl0 lv st h nc ns o ho
  unfold xi_if_ge at ho
  split at ho
  · cases ho
    refine x_go (Nat.le_refl _) (Nat.le_refl _) (fun Q _ _ hK ls H locs hl hR hS => ?_)
    dsimp only at hK
    refine lv_if_ge hc.1 hc.2.1 hd ht (fun hx => ?_) (fun hx => ?_)
    · rw [if_pos hx] at hK
      exact hK ls H locs hl hR hS
    · rw [if_neg hx] at hK
      rw [← hn]
      exact hK ls H locs hl hR hS
  · cases ho
def xi_icmp_ge (kt k1 : Nat) : xI := fun lv st h nc ns => match st with
  | .int z :: .int x :: r => some (.inl (if z ≤ x then kt else k1, lv, r, h, nc, ns))
  | _ => none
theorem xo_icmp_ge {off : Int} (hd : decode y.2.1 (pcs k) = .ok (.if_icmp .ge off, 3)) (ht : (pcs k : Int) + off = (pcs kt : Int)) (hn : pcs k1 = pcs k + 3) : x_ok u mt y pcs k (xi_icmp_ge kt k1) := by
  intro p l e R s m args below meth c hc hf0 hl0 lv st h nc ns o ho
  unfold xi_icmp_ge at ho
  split at ho
  · cases ho
    refine x_go (Nat.le_refl _) (Nat.le_refl _) (fun Q _ _ hK ls H locs hl hR hS => ?_)
    dsimp only at hK
    refine lv_icmp_ge hc.1 hc.2.1 hd ht (fun hx => ?_) (fun hx => ?_)
    · rw [if_pos hx] at hK
      exact hK ls H locs hl hR hS
    · rw [if_neg hx] at hK
      rw [← hn]
      exact hK ls H locs hl hR hS
  · cases ho
def xi_if_gt (kt k1 : Nat) : xI := fun lv st h nc ns => match st with
  | .int x :: r => some (.inl (if 0 < x then kt else k1, lv, r, h, nc, ns))
  | _ => none
theorem xo_if_gt {off : Int} (hd : decode y.2.1 (pcs k) = .ok (.ifCond .gt off, 3)) (ht : (pcs k : Int) + off = (pcs kt : Int)) (hn : pcs k1 = pcs k + 3) : x_ok u mt y pcs k (xi_if_gt kt k1) := by
  intro p l e R s m args below meth c hc hf0 hl0 lv st h nc ns o ho
  unfold xi_if_gt at ho
  split at ho
  · cases ho
    refine x_go (Nat.le_refl _) (Nat.le_refl _) (fun Q _ _ hK ls H locs hl hR hS => ?_)
    dsimp only at hK
    refine lv_if_gt hc.1 hc.2.1 hd ht (fun hx => ?_) (fun hx => ?_)
    · rw [if_pos hx] at hK
      exact hK ls H locs hl hR hS
    · rw [if_neg hx] at hK
      rw [← hn]
      exact hK ls H locs hl hR hS
  · cases ho
def xi_icmp_gt (kt k1 : Nat) : xI := fun lv st h nc ns => match st with
  | .int z :: .int x :: r => some (.inl (if z < x then kt else k1, lv, r, h, nc, ns))
  | _ => none
theorem xo_icmp_gt {off : Int} (hd : decode y.2.1 (pcs k) = .ok (.if_icmp .gt off, 3)) (ht : (pcs k : Int) + off = (pcs kt : Int)) (hn : pcs k1 = pcs k + 3) : x_ok u mt y pcs k (xi_icmp_gt kt k1) := by
  intro p l e R s m args below meth c hc hf0 hl0 lv st h nc ns o ho
  unfold xi_icmp_gt at ho
  split at ho
  · cases ho
    refine x_go (Nat.le_refl _) (Nat.le_refl _) (fun Q _ _ hK ls H locs hl hR hS => ?_)
    dsimp only at hK
    refine lv_icmp_gt hc.1 hc.2.1 hd ht (fun hx => ?_) (fun hx => ?_)
    · rw [if_pos hx] at hK
      exact hK ls H locs hl hR hS
    · rw [if_neg hx] at hK
      rw [← hn]
      exact hK ls H locs hl hR hS
  · cases ho
def xi_if_le (kt k1 : Nat) : xI := fun lv st h nc ns => match st with
  | .int x :: r => some (.inl (if x ≤ 0 then kt else k1, lv, r, h, nc, ns))
  | _ => none
theorem xo_if_le {off : Int} (hd : decode y.2.1 (pcs k) = .ok (.ifCond .le off, 3)) (ht : (pcs k : Int) + off = (pcs kt : Int)) (hn : pcs k1 = pcs k + 3) : x_ok u mt y pcs k (xi_if_le kt k1) := by
  intro p l e R s m args below meth c hc hf0 hl0 lv st h nc ns o ho
  unfold xi_if_le at ho
  split at ho
  · cases ho
    refine x_go (Nat.le_refl _) (Nat.le_refl _) (fun Q _ _ hK ls H locs hl hR hS => ?_)
    dsimp only at hK
    refine lv_if_le hc.1 hc.2.1 hd ht (fun hx => ?_) (fun hx => ?_)
    · rw [if_pos hx] at hK
      exact hK ls H locs hl hR hS
    · rw [if_neg hx] at hK
      rw [← hn]
      exact hK ls H locs hl hR hS
  · cases ho
def xi_icmp_le (kt k1 : Nat) : xI := fun lv st h nc ns => match st with
  | .int z :: .int x :: r => some (.inl (if x ≤ z then kt else k1, lv, r, h, nc, ns))
  | _ => none
theorem xo_icmp_le {off : Int} (hd : decode y.2.1 (pcs k) = .ok (.if_icmp .le off, 3)) (ht : (pcs k : Int) + off = (pcs kt : Int)) (hn : pcs k1 = pcs k + 3) : x_ok u mt y pcs k (xi_icmp_le kt k1) := by
  intro p l e R s m args below meth c hc hf0 hl0 lv st h nc ns o ho
  unfold xi_icmp_le at ho
  split at ho
  · cases ho
    refine x_go (Nat.le_refl _) (Nat.le_refl _) (fun Q _ _ hK ls H locs hl hR hS => ?_)
    dsimp only at hK
    refine lv_icmp_le hc.1 hc.2.1 hd ht (fun hx => ?_) (fun hx => ?_)
    · rw [if_pos hx] at hK
      exact hK ls H locs hl hR hS
    · rw [if_neg hx] at hK
      rw [← hn]
      exact hK ls H locs hl hR hS
  · cases ho
def xi_goto (kt : Nat) : xI := fun lv st h nc ns => some (.inl (kt, lv, st, h, nc, ns))
theorem xo_goto {off : Int} (hd : decode y.2.1 (pcs k) = .ok (.goto off, 3)) (ht : (pcs k : Int) + off = (pcs kt : Int)) : x_ok u mt y pcs k (xi_goto kt) := by
  intro p l e R s m args below meth c hc hf0 hl0 lv st h nc ns o ho
  cases ho
  refine x_go (Nat.le_refl _) (Nat.le_refl _) (fun Q _ _ hK ls H locs hl hR hS => ?_)
  exact lv_goto hc.1 hc.2.1 hd ht (hK ls H locs hl hR hS)
def xi_ifnull (kt k1 : Nat) : xI := fun lv st h nc ns => match st with
  | .ref _ :: r => some (.inl (k1, lv, r, h, nc, ns))
  | .null :: r => some (.inl (kt, lv, r, h, nc, ns))
  | _ => none
theorem xo_ifnull {off : Int} (hd : decode y.2.1 (pcs k) = .ok (.ifnull off, 3)) (ht : (pcs k : Int) + off = (pcs kt : Int)) (hn : pcs k1 = pcs k + 3) : x_ok u mt y pcs k (xi_ifnull kt k1) := by
  intro p l e R s m args below meth c hc hf0 hl0 lv st h nc ns o ho
  unfold xi_ifnull at ho
  split at ho
  · cases ho
    refine x_go (Nat.le_refl _) (Nat.le_refl _) (fun Q _ _ hK ls H locs hl hR hS => ?_)
    refine lv_ifnull hc.1 hc.2.1 hd ?_
    rw [← hn]
    exact hK ls H locs hl hR hS
  · cases ho
    refine x_go (Nat.le_refl _) (Nat.le_refl _) (fun Q _ _ hK ls H locs hl hR hS => ?_)
    exact lv_ifnullN hc.1 hc.2.1 hd ht (hK ls H locs hl hR hS)
  · cases ho
def xi_ifnonnull (kt k1 : Nat) : xI := fun lv st h nc ns => match st with
  | .ref _ :: r => some (.inl (kt, lv, r, h, nc, ns))
  | .null :: r => some (.inl (k1, lv, r, h, nc, ns))
  | _ => none
theorem xo_ifnonnull {off : Int} (hd : decode y.2.1 (pcs k) = .ok (.ifnonnull off, 3)) (ht : (pcs k : Int) + off = (pcs kt : Int)) (hn : pcs k1 = pcs k + 3) : x_ok u mt y pcs k (xi_ifnonnull kt k1) := by
  intro p l e R s m args below meth c hc hf0 hl0 lv st h nc ns o ho
  unfold xi_ifnonnull at ho
  split at ho
  · cases ho
    refine x_go (Nat.le_refl _) (Nat.le_refl _) (fun Q _ _ hK ls H locs hl hR hS => ?_)
    exact lv_ifnonnull hc.1 hc.2.1 hd ht (hK ls H locs hl hR hS)
  · cases ho
    refine x_go (Nat.le_refl _) (Nat.le_refl _) (fun Q _ _ hK ls H locs hl hR hS => ?_)
    refine lv_ifnonnullN hc.1 hc.2.1 hd ?_
    rw [← hn]
    exact hK ls H locs hl hR hS
  · cases ho
end XD
