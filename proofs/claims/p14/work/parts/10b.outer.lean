section XO
variable {u : xPi} {mt : Nat → xM} {y : xM} {pcs : Nat → Nat} {k k1 kt : Nat}
/-- one or, where that doesn't go on, the other -/
def xi_or (f g : xI) : xI := fun lv st h nc ns => match f lv st h nc ns with
  | some o => some o
  | none => g lv st h nc ns
theorem xo_or {f g : xI} (hf : x_ok u mt y pcs k f) (hg : x_ok u mt y pcs k g) : x_ok u mt y pcs k (xi_or f g) := by
  intro p l e R s m args below meth c hc hf0 hl0 lv st h nc ns o ho
  unfold xi_or at ho
  split at ho
  · rename_i o' ho'
    cases ho
    exact hf p l e R s m args below meth c hc hf0 hl0 lv st h nc ns _ ho'
  · exact hg p l e R s m args below meth c hc hf0 hl0 lv st h nc ns o ho
/-! arrays that were there before -/
def xi_tlen (k1 id N : Nat) : xI := fun lv st h nc ns => match st with
  | .ref a :: r => if a = id then some (.inl (k1, lv, .int (Int32.ofNat N) :: r, h, nc, ns)) else none
  | _ => none
theorem xo_tlen {id N : Nat} {ty : FieldType} {f : Nat → Value} (ht : (id, ty, N, f) ∈ xp_t u) (hd : decode y.2.1 (pcs k) = .ok (.arraylength, 1)) (hn : pcs k1 = pcs k + 1) : x_ok u mt y pcs k (xi_tlen k1 id N) := by
  intro p l e R s m args below meth c hc hf0 hl0 lv st h nc ns o ho
  unfold xi_tlen at ho
  split at ho
  · split at ho
    · rename_i hz
      cases ho
      refine x_go (Nat.le_refl _) (Nat.le_refl _) (fun Q _ _ hK ls H locs hl hR hS => ?_)
      subst hz
      have hE := hc.2.2.2.2.2.2.2.2
      refine va_tlen hc.1 hc.2.1 (hE.2.2.2.2.2.2.2.1 _ ht) hS rfl hd ?_
      rw [← hn]
      exact hK ls H locs hl hR hS
    · cases ho
  · cases ho
def xi_ti (k1 id N : Nat) (f : Nat → Int32) : xI := fun lv st h nc ns => match st with
  | .int i :: .ref a :: r => if a = id ∧ ¬ (i < 0 ∨ N ≤ i.toNatClampNeg) then some (.inl (k1, lv, .int (f i.toNatClampNeg) :: r, h, nc, ns)) else none
  | _ => none
theorem xo_ti {id N : Nat} {f : Nat → Int32} (ht : (id, .int, N, fun j => .int (f j)) ∈ xp_t u) (hd : decode y.2.1 (pcs k) = .ok (.iaload, 1)) (hn : pcs k1 = pcs k + 1) : x_ok u mt y pcs k (xi_ti k1 id N f) := by
  intro p l e R s m args below meth c hc hf0 hl0 lv st h nc ns o ho
  unfold xi_ti at ho
  split at ho
  · rename_i i a r
    split at ho
    · rename_i hz
      cases ho
      refine x_go (Nat.le_refl _) (Nat.le_refl _) (fun Q _ _ hK ls H locs hl hR hS => ?_)
      obtain ⟨rfl, hz⟩ := hz
      have hE := hc.2.2.2.2.2.2.2.2
      refine va_ti hc.1 hc.2.1 (hE.2.2.2.2.2.2.2.1 _ ht) hS hz rfl hd ?_
      rw [← hn]
      exact hK ls H locs hl hR hS
    · cases ho
  · cases ho
end XO
