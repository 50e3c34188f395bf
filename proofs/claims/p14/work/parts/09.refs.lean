section XM
variable {u : xPi} {mt : Nat → xM} {y : xM} {pcs : Nat → Nat} {k k1 kt : Nat}
/-- objects of class number ci may stand where C is asked for -/
def x_aok (u : xPi) (C : String) (ci : Nat) : Prop := ∃ (C1 : String) (T : u_T) (N : Nat), (xp_cl u)[ci]? = some (C1, T, N) ∧ (C1 = C ∨ Cond.castable C1 C ∈ xp_n u)
theorem x_aok_asg {s : State} {C : String} {ci : Nat} {comp : ClassId} (hE : x_Env u s) (h : x_aok u C ci) (hC : s.vm.findClass C = some comp) : s.vm.assignable ((xp_D u).1 ci) comp = true ∧ ∃ kC, s.vm.classes[(xp_D u).1 ci]? = some kC := by
  obtain ⟨C1, T, N, h1, h2⟩ := h
  have hcls := (hE.2.2.2.2.1.1 ci _ h1).2
  obtain ⟨kC, hkC, -⟩ := id hcls.2
  refine ⟨?_, kC, hkC⟩
  rcases h2 with h2 | h2
  · subst h2
    rw [Option.some.inj (hC.symm.trans hcls.1)]
    exact va_assign hcls
  · obtain ⟨c0, t1, f1, f2, f3⟩ := Cond.castable_spec (va_Nw.use (A := #[]) rfl (hE.2.2.1 _ h2).2)
    cases hcls.1.symm.trans f1
    cases hC.symm.trans f2
    exact f3
def xi_aast (k1 t : Nat) (cs : List Nat) : xI := fun lv st h nc ns => match st with
  | .ref v :: .int i :: .ref a :: r => match h[a]? with
    | some (.inl w) => match h[v]? with
      | some (.inr z) => if w.1 = t ∧ ¬ (i < 0 ∨ w.2.1 ≤ i.toNatClampNeg) ∧ z.1 ∈ cs then some (.inl (k1, lv, r, h.set a (.inl (w.1, w.2.1, (i.toNatClampNeg, .ref v) :: w.2.2)), nc, ns)) else none
      | _ => none
    | _ => none
  | .null :: .int i :: .ref a :: r => match h[a]? with
    | some (.inl w) => if w.1 = t ∧ ¬ (i < 0 ∨ w.2.1 ≤ i.toNatClampNeg) then some (.inl (k1, lv, r, h.set a (.inl (w.1, w.2.1, (i.toNatClampNeg, .null) :: w.2.2)), nc, ns)) else none
    | _ => none
  | _ => none
theorem xo_aast {t : Nat} {cA : ClassId} {C : String} {cs : List Nat} (ht : (xp_ty u)[t]? = some (cA, .object C)) (hcs : ∀ ci ∈ cs, x_aok u C ci) (hd : decode y.2.1 (pcs k) = .ok (.aastore, 1)) (hn : pcs k1 = pcs k + 1) : x_ok u mt y pcs k (xi_aast k1 t cs) := by
  intro p l e R s m args below meth c hc hf0 hl0 lv st h nc ns o ho
  unfold xi_aast at ho
  split at ho
  · rename_i v i a r
    split at ho
    · rename_i w hw
      split at ho
      · rename_i z hz1
        split at ho
        · rename_i hz
          cases ho
          refine x_go (Nat.le_refl _) (Nat.le_refl _) (fun Q _ _ hK ls H locs hl hR hS => ?_)
          have hE := hc.2.2.2.2.2.2.2.2
          obtain ⟨t', n, l'⟩ := w
          obtain ⟨rfl, hz, hci⟩ := hz
          have hw' := x_P1 hR hw (by show (xp_ty u)[_]? ≠ none; rw [ht]; simp)
          rw [x_c_arr ht] at hw'
          have h0 : ¬ i < 0 := fun q => hz (Or.inl q)
          have hlt : i.toNatClampNeg < n := Nat.not_le.mp fun q => hz (Or.inr q)
          obtain ⟨r', hr', cellV, g1, g2, g3, -⟩ := hR.2.2 v _ hz1 trivial
          obtain ⟨kA, comp, q1, q2, q3, -⟩ := (hE.2.2.2.2.1.2 _ _ ht).2
          obtain ⟨kE, hkE, -⟩ := Vm.findClass_spec q3
          obtain ⟨hasg, kC, hkC⟩ := x_aok_asg hE (hcs _ hci) q3
          refine W.aast hc.1 hc.2.1 (hw' 0 _ rfl) (fun q h => by cases h) (fun h => by cases h) q1 q2 rfl hkE ⟨h0, by show _ < (arrV _ _ _).slots.size; rw [arrV_size]; exact hlt⟩ g1 (fun q h => by rw [g3] at h; cases h) (by rw [g2]; exact hkC) (by rw [g2]; exact hasg) rfl rfl hd fun H1 e z oq => ?_
          have hW := hK ls H1 _ hl (x_R_set hR hw ?_ z oq) (x_S_put (k := i.toNatClampNeg) hS hR hw z oq)
          · rw [hn] at hW
            exact hW
          · rw [x_c_arr ht]
            show H1[xp_ad u a]? = some (vp_cell cA (n, .inr (.inr (.inr (.inr (x_ref (xp_ad u) ((i.toNatClampNeg, .ref v) :: l')))))))
            rw [e]
            show some ((vp_cell cA (n, .inr (.inr (.inr (.inr (x_ref (xp_ad u) l')))))).setSlot _ _) = _
            rw [vp_cell_q, vp_cell_q, arrV_store]
            congr 2
            funext j
            by_cases hj : j = i.toNatClampNeg
            · subst hj
              simp [updV, x_ref, x_at_cons, va_rf]
            · simp [updV, x_ref, x_at_cons, hj]
        · cases ho
      · cases ho
    · cases ho
  · rename_i i a r
    split at ho
    · rename_i w hw
      split at ho
      · rename_i hz
        cases ho
        refine x_go (Nat.le_refl _) (Nat.le_refl _) (fun Q _ _ hK ls H locs hl hR hS => ?_)
        have hE := hc.2.2.2.2.2.2.2.2
        obtain ⟨t', n, l'⟩ := w
        obtain ⟨rfl, hz⟩ := hz
        have hw' := x_P1 hR hw (by show (xp_ty u)[_]? ≠ none; rw [ht]; simp)
        rw [x_c_arr ht] at hw'
        refine va_WaastN (C := C) hc.1 hc.2.1 (hw' 0 _ rfl) ((hE.2.2.2.2.1.2 _ _ ht).1 n (fun j => va_rf (x_ref (xp_ad u) l' j))) (fun h => by cases h) (by show ¬ (i < 0 ∨ (arrV _ _ _).slots.size ≤ _); rw [arrV_size]; exact hz) rfl rfl hd fun H1 e z oq => ?_
        have hW := hK ls H1 _ hl (x_R_set hR hw ?_ z oq) (x_S_put (k := i.toNatClampNeg) hS hR hw z oq)
        · rw [hn] at hW
          exact hW
        · rw [x_c_arr ht]
          show H1[xp_ad u a]? = some (vp_cell cA (n, .inr (.inr (.inr (.inr (x_ref (xp_ad u) ((i.toNatClampNeg, .null) :: l')))))))
          rw [e]
          show some ((vp_cell cA (n, .inr (.inr (.inr (.inr (x_ref (xp_ad u) l')))))).setSlot _ _) = _
          rw [vp_cell_q, vp_cell_q, arrV_store]
          congr 2
          funext j
          by_cases hj : j = i.toNatClampNeg
          · subst hj
            simp [updV, x_ref, x_at_cons, va_rf]
          · simp [updV, x_ref, x_at_cons, hj]
      · cases ho
    · cases ho
  · cases ho
/-! statics and texts that were there before -/
def xi_val (k1 : Nat) (v : Value) : xI := fun lv st h nc ns => some (.inl (k1, lv, v :: st, h, nc, ns))
theorem xo_getstatic {idx : Nat} {C n d ref : String} {v : Value} (hz : (C, n, d, v) ∈ xp_z u) (hl : Cond.fieldLink y.1.cls idx ref n d ∈ xp_G u ∨ ∃ host, Cond.fieldLinkNest y.1.cls idx ref n d host ∈ xp_n u) (hsm : C = ref ∨ Cond.sameField ref C n d ∈ xp_G u) (hd : decode y.2.1 (pcs k) = .ok (.getstatic idx, 3)) (hn : pcs k1 = pcs k + 3) : x_ok u mt y pcs k (xi_val k1 v) := by
  intro p l e R s m args below meth c hc hf0 hl0 lv st h nc ns o ho
  cases ho
  refine x_go (Nat.le_refl _) (Nat.le_refl _) (fun Q _ _ hK ls H locs hl1 hR hS => ?_)
  have hE := hc.2.2.2.2.2.2.2.2
  have hts := hc.2.2.2.2.1
  have hsame : ∀ x, s.fieldFound? C n d = some x → s.fieldFound? ref n d = some x := by
    intro x hx
    rcases hsm with g6 | g6
    · rw [← g6]; exact hx
    · exact u_same (hts _ g6) x hx
  rcases hl with hl | ⟨host, hl⟩
  · refine va_gets hc.1 hc.2.1 (hE.1 _ hz) hS hc.2.2.2.1 (hts _ hl) hsame hd ?_
    rw [← hn]
    exact hK ls H locs hl1 hR hS
  · refine va_getsN hc.1 hc.2.1 (hE.1 _ hz) hS hc.2.2.2.1 (va_Nw.use rfl (hE.2.2.1 _ hl).2) hsame hd ?_
    rw [← hn]
    exact hK ls H locs hl1 hR hS
theorem xo_ldcS {idx a : Nat} {tx : String} (hr : (y.1.cls, idx, tx, a) ∈ xp_r u) (hd : decode y.2.1 (pcs k) = .ok (.ldc idx, 2)) (hn : pcs k1 = pcs k + 2) : x_ok u mt y pcs k (xi_val k1 (.ref a)) := by
  intro p l e R s m args below meth c hc hf0 hl0 lv st h nc ns o ho
  cases ho
  refine x_go (Nat.le_refl _) (Nat.le_refl _) (fun Q _ _ hK ls H locs hl1 hR hS => ?_)
  refine va_ldcS hc.1 hc.2.1 hc.2.2.2.1 (hc.2.2.2.2.2.2.2.2.2.1 _ hr) hd ?_
  rw [← hn]
  exact hK ls H locs hl1 hR hS
/-! casts and instanceof -/
def xi_checkcast (k1 : Nat) (cs : List Nat) : xI := fun lv st h nc ns => match st with
  | .ref a :: r => match h[a]? with
    | some (.inr z) => if z.1 ∈ cs then some (.inl (k1, lv, .ref a :: r, h, nc, ns)) else none
    | _ => none
  | .null :: r => some (.inl (k1, lv, .null :: r, h, nc, ns))
  | _ => none
theorem xo_checkcast {idx : Nat} {nm : String} {cs : List Nat} (hw : Cond.classLink y.1.cls idx nm ∈ xp_G u) (hcs : ∀ ci ∈ cs, x_aok u nm ci) (hd : decode y.2.1 (pcs k) = .ok (.checkcast idx, 3)) (hn : pcs k1 = pcs k + 3) : x_ok u mt y pcs k (xi_checkcast k1 cs) := by
  intro p l e R s m args below meth c hc hf0 hl0 lv st h nc ns o ho
  unfold xi_checkcast at ho
  split at ho
  · rename_i a r
    split at ho
    · rename_i z hz1
      split at ho
      · rename_i hz
        cases ho
        refine x_go (Nat.le_refl _) (Nat.le_refl _) (fun Q _ _ hK ls H locs hl hR hS => ?_)
        have hE := hc.2.2.2.2.2.2.2.2
        have hts := hc.2.2.2.2.1
        obtain ⟨C1, T, N, h1, h2⟩ := hcs _ hz
        have hrc := va_recv (q0 := 0) hE.2.2.2.2.1 (x_P1 hR hz1 trivial) h1 rfl
        rcases h2 with h2 | h2
        · subst h2
          refine va_castS hc.1 hc.2.1 hc.2.2.2.1 (hts _ hw) (hE.2.2.2.2.1.1 _ _ h1).2 hrc hd ?_
          rw [← hn]
          exact hK ls H locs hl hR hS
        · refine va_castY hc.1 hc.2.1 hc.2.2.2.1 (hts _ hw) (hE.2.2.1 _ h2).2 hrc hd ?_
          rw [← hn]
          exact hK ls H locs hl hR hS
      · cases ho
    · cases ho
  · cases ho
    refine x_go (Nat.le_refl _) (Nat.le_refl _) (fun Q _ _ hK ls H locs hl hR hS => ?_)
    refine lv_castN hc.1 hc.2.1 hd ?_
    rw [← hn]
    exact hK ls H locs hl hR hS
  · cases ho
/-- cs: the classes that are such, ds: those that are not -/
def xi_inst (k1 : Nat) (cs ds : List Nat) : xI := fun lv st h nc ns => match st with
  | .ref a :: r => match h[a]? with
    | some (.inr z) => if z.1 ∈ cs then some (.inl (k1, lv, .int 1 :: r, h, nc, ns)) else if z.1 ∈ ds then some (.inl (k1, lv, .int 0 :: r, h, nc, ns)) else none
    | _ => none
  | .null :: r => some (.inl (k1, lv, .int 0 :: r, h, nc, ns))
  | _ => none
def x_nok (u : xPi) (C : String) (ci : Nat) : Prop := ∃ (C1 : String) (T : u_T) (N : Nat), (xp_cl u)[ci]? = some (C1, T, N) ∧ (C1, C) ∈ xp_x u
theorem xo_inst {idx : Nat} {nm : String} {cs ds : List Nat} (hw : Cond.classLink y.1.cls idx nm ∈ xp_G u) (hcs : ∀ ci ∈ cs, x_aok u nm ci) (hds : ∀ ci ∈ ds, x_nok u nm ci) (hd : decode y.2.1 (pcs k) = .ok (.instanceof idx, 3)) (hn : pcs k1 = pcs k + 3) : x_ok u mt y pcs k (xi_inst k1 cs ds) := by
  intro p l e R s m args below meth c hc hf0 hl0 lv st h nc ns o ho
  unfold xi_inst at ho
  split at ho
  · rename_i a r
    split at ho
    · rename_i z hz1
      have hE := hc.2.2.2.2.2.2.2.2
      have hts := hc.2.2.2.2.1
      split at ho
      · rename_i hz
        cases ho
        refine x_go (Nat.le_refl _) (Nat.le_refl _) (fun Q _ _ hK ls H locs hl hR hS => ?_)
        obtain ⟨C1, T, N, h1, h2⟩ := hcs _ hz
        have hrc := va_recv (q0 := 0) hE.2.2.2.2.1 (x_P1 hR hz1 trivial) h1 rfl
        rcases h2 with h2 | h2
        · subst h2
          refine va_instS hc.1 hc.2.1 hc.2.2.2.1 (hts _ hw) (hE.2.2.2.2.1.1 _ _ h1).2 hrc hd ?_
          rw [← hn]
          exact hK ls H locs hl hR hS
        · refine va_instY hc.1 hc.2.1 hc.2.2.2.1 (hts _ hw) (hE.2.2.1 _ h2).2 hrc hd ?_
          rw [← hn]
          exact hK ls H locs hl hR hS
      · split at ho
        · rename_i hz
          cases ho
          refine x_go (Nat.le_refl _) (Nat.le_refl _) (fun Q _ _ hK ls H locs hl hR hS => ?_)
          obtain ⟨C1, T, N, h1, h2⟩ := hds _ hz
          have hrc := va_recv (q0 := 0) hE.2.2.2.2.1 (x_P1 hR hz1 trivial) h1 rfl
          refine va_instNo hc.1 hc.2.1 hc.2.2.2.1 (hts _ hw) (hE.2.2.2.2.2.2.1 _ h2) hrc hd ?_
          rw [← hn]
          exact hK ls H locs hl hR hS
        · cases ho
    · cases ho
  · cases ho
    refine x_go (Nat.le_refl _) (Nat.le_refl _) (fun Q _ _ hK ls H locs hl hR hS => ?_)
    refine lv_instN hc.1 hc.2.1 hd ?_
    rw [← hn]
    exact hK ls H locs hl hR hS
  · cases ho
end XM
