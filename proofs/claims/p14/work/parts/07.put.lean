section XJ
variable {u : xPi} {mt : Nat → xM} {y : xM} {pcs : Nat → Nat} {k k1 kt : Nat}
theorem x_fits_v (ad : Nat → Nat) (ty : FieldType) (v : Value) : fits ty (x_v ad v) = fits ty v := by
  cases v <;> first | rfl | (cases ty <;> rfl)
/-- what is to be known of a class: its fields' types, no two fields of one name -/
def x_cok (C : String) (T : u_T) (N : Nat) : Prop := ∃ ty0 : Nat → FieldType, (∀ k, k < N → parseFieldDescriptor (T k).2.2.1 = some (ty0 k)) ∧ ∀ a, a < N → ∀ b, b < N → a ≠ b → (T a).2.1 ≠ (T b).2.1
def x_pok (u : xPi) (y : MethodName) (idx : Nat) (ty : FieldType) (q : Nat × Nat) : Prop := ∃ (C : String) (T : u_T) (N : Nat) (ref : String), (xp_cl u)[q.1]? = some (C, T, N) ∧ q.2 < N ∧ (∀ w ∈ u_ws C T N, w ∈ xp_G u) ∧ x_cok C T N ∧ parseFieldDescriptor (T q.2).2.2.1 = some ty ∧ ((T q.2).1 = ref ∨ Cond.sameField ref (T q.2).1 (T q.2).2.1 (T q.2).2.2.1 ∈ xp_G u) ∧
  (((T q.2).2.2.2 = false ∧ (Cond.fieldLink y.cls idx ref (T q.2).2.1 (T q.2).2.2.1 ∈ xp_G u ∨ ∃ host, Cond.fieldLinkNest y.cls idx ref (T q.2).2.1 (T q.2).2.2.1 host ∈ xp_n u)) ∨
   ((T q.2).2.2.2 = true ∧ y.name = "<init>" ∧ (T q.2).1 = y.cls ∧ Cond.fieldLink y.cls idx ref (T q.2).2.1 (T q.2).2.2.1 ∈ xp_G u))
def xi_putfield (k1 : Nat) (ty : FieldType) (tab : List (Nat × Nat)) : xI := fun lv st h nc ns => match st with
  | v :: .ref a :: r => match h[a]? with
    | some (.inr w) => match x_look tab w.1 with
      | some kf => if fits ty v = true ∧ kf < w.2.length then some (.inl (k1, lv, r, h.set a (.inr (w.1, w.2.set kf v)), nc, ns)) else none
      | none => none
    | _ => none
  | _ => none
set_option maxHeartbeats 1000000 in
theorem xo_putfield {idx : Nat} {ty : FieldType} {tab : List (Nat × Nat)} (hf : ∀ q ∈ tab, x_pok u y.1 idx ty q) (hd : decode y.2.1 (pcs k) = .ok (.putfield idx, 3)) (hn : pcs k1 = pcs k + 3) : x_ok u mt y pcs k (xi_putfield k1 ty tab) := by
  intro p l e R s m args below meth c hc hf0 hl0 lv st h nc ns o ho
  unfold xi_putfield at ho
  split at ho
  · rename_i v a r
    split at ho
    · rename_i w hw
      split at ho
      · rename_i kf hkf
        split at ho
        · rename_i hz
          cases ho
          refine x_go (Nat.le_refl _) (Nat.le_refl _) (fun Q _ _ hK ls H locs hl hR hS => ?_)
          obtain ⟨hfv, hln⟩ := hz
          obtain ⟨C, T, N, ref, g1, g2, g3, ⟨ty0, g41, g42⟩, g5, g6, g7⟩ := hf _ (x_look_mem hkf)
          have hts := hc.2.2.2.2.1
          have hown := hc.2.2.2.1
          have hin : ∀ z ∈ u_ws C T N, z ∈ xp_G u := g3
          have hE := hc.2.2.2.2.2.2.2.2
          have hKK := hE.2.2.2.2.1
          have hsame : ∀ x, s.fieldFound? (T kf).1 (T kf).2.1 (T kf).2.2.1 = some x → s.fieldFound? ref (T kf).2.1 (T kf).2.2.1 = some x := by
            intro x hx
            rcases g6 with g6 | g6
            · rw [← g6]; exact hx
            · exact u_same (hts _ g6) x hx
          have hfit : fits ty (x_v (xp_ad u) v) = true := by rw [x_fits_v]; exact hfv
          have hnar : narrow ty (x_v (xp_ad u) v) = x_v (xp_ad u) v := narrow_of_fits hfit
          have hap := va_apart (own := y.1.cls) hts hin ty0 g41 g42 hKK g1
          obtain ⟨r', h1, cell, q1, q2, q3, q4⟩ := hR.2.2 a _ hw trivial
          have hr : r' = (C, T, N) := Option.some.inj (h1.symm.trans g1)
          subst hr
          obtain ⟨hSl, hfc, kC, hkC, hkind⟩ := hKK.1 w.1 _ g1
          obtain ⟨cf, kf', fi, f, hi, hsl⟩ := hSl kf g2
          have hlay := hts _ (hin _ (u_in_lay g2))
          have hst := (u_facts hfc hkC (u_lays hts hin g2) hi).1
          have kk : ∀ H' : Heap, H'[xp_ad u a]? = some (cell.setSlot f.slot (x_v (xp_ad u) v)) → H'.size = H.size → (∀ q, q ≠ xp_ad u a → H'[q]? = H[q]?) → W p l e R s m args below meth c H' (locs ++ [⟨xp_ad u a, f.slot⟩]) nc ns Q (F0 m (pcs k + 3) ls (r.map (x_v (xp_ad u)))) := by
            intro H' e1 e2 e3
            rw [hsl] at e1
            rw [← hn]
            refine hK ls H' _ hl (x_R_set hR hw ?_ e2 e3) (x_S_put hS hR hw e2 e3)
            refine ⟨(C, T, N), g1, ?_⟩
            have hmap : (w.2.set kf v).map (x_v (xp_ad u)) = (w.2.map (x_v (xp_ad u))).set kf (x_v (xp_ad u) v) := List.map_set
            show t_OB (xp_ad u a) ((xp_D u).1 w.1) N ((xp_D u).2 w.1) H' (vp_V ((w.2.set kf v).map (x_v (xp_ad u))))
            rw [hmap]
            exact t_OB.to (V := updV (vp_V (w.2.map (x_v (xp_ad u)))) kf (x_v (xp_ad u) v)) ⟨_, e1, q2, q3, t_set q4 hap g2 _⟩ (fun j _ => vp_updV_set (by rw [List.length_map]; exact hln) _ j)
          rcases g7 with ⟨gf, gl⟩ | ⟨gf, gn, gd, gl⟩
          · unfold u_lay at hlay
            rw [if_neg (by rw [gf]; decide)] at hlay
            have h6 := u_store hfc hkC hkind hlay hi g5 hnar hfit
            rcases gl with gl | ⟨host, gl⟩
            · exact W.putK hc.1 hc.2.1 (f := f) ⟨hown, hts _ gl, ⟨_, _, _, hsame _ hi⟩, hst⟩ (by rw [q2]; exact h6) q1 q3 (by rw [hsl]; exact k2_hasslot (q4 kf g2)) rfl rfl hd kk
            · exact va_WputK hc.1 hc.2.1 (f := f) hown (va_Nw.use rfl (hE.2.2.1 _ gl).2) (hsame _ hi) hst (by rw [q2]; exact h6) q1 q3 (by rw [hsl]; exact k2_hasslot (q4 kf g2)) rfl rfl hd kk
          · unfold u_lay at hlay
            rw [if_pos gf] at hlay
            have hcf : m.cls = cf := by
              obtain ⟨_, _, c', _, _, _, -, -, hf', -, -, -, hown2, -⟩ := Cond.laysFinal_spec hlay
              have e1 : c' = cf := by have := hi.symm.trans hf'; simp at this; exact this.1.symm
              rw [gd] at hown2
              rw [← e1]; exact Option.some.inj (hown.symm.trans hown2)
            have h6 := u_fits hfc hkC hkind (Or.inr hlay) hi g5 hnar hfit
            exact W.putFinK hc.1 hc.2.1 hown (hts _ gl) (hsame _ hi) hst hcf (by rw [hc.2.2.2.2.2.2.2.1]; exact gn) (by rw [q2]; exact h6) q1 q3 (by rw [hsl]; exact k2_hasslot (q4 kf g2)) rfl rfl hd kk
        · cases ho
      · cases ho
    · cases ho
  · cases ho
/-! a new object: its fields have their types' defaults -/
def xi_new (k1 ci N : Nat) (fs : List Value) : xI := fun lv st h nc ns => if h.length < xT then some (.inl (k1, lv, .ref h.length :: st, h ++ [.inr (ci, fs)], nc + 1, ns + N)) else none
theorem xo_new {idx ci N : Nat} {C : String} {T : u_T} {fs : List Value} (g1 : (xp_cl u)[ci]? = some (C, T, N)) (g2 : ∀ w ∈ u_ws C T N, w ∈ xp_G u) (g3 : Cond.classLink y.1.cls idx C ∈ xp_G u) (g4 : Cond.instantiable C N ∈ xp_G u) (g5 : Cond.initialized C ∈ xp_G u)
    {ty0 : Nat → FieldType} (g6 : ∀ k, k < N → parseFieldDescriptor (T k).2.2.1 = some (ty0 k)) (g7 : ∀ j, j < N → defaultValue (ty0 j) = vp_V (fs.map (x_v (xp_ad u))) j) (hd : decode y.2.1 (pcs k) = .ok (.new idx, 3)) (hn : pcs k1 = pcs k + 3) : x_ok u mt y pcs k (xi_new k1 ci N fs) := by
  intro p l e R s m args below meth c hc hf0 hl0 lv st h nc ns o ho
  unfold xi_new at ho
  split at ho
  · rename_i hlt
    cases ho
    refine x_go (Nat.le_add_right _ _) (Nat.le_add_right _ _) (fun Q hc1 hc2 hK ls H locs hl hR hS => ?_)
    have hts := hc.2.2.2.2.1
    have hin : ∀ z ∈ u_ws C T N, z ∈ xp_G u := g2
    have hE := hc.2.2.2.2.2.2.2.2
    have hKn := hE.2.2.2.2.1.1 ci _ g1
    refine W.newcK hc.1 hc.2.1 hc.2.2.2.1 (hts _ g3) (hts _ g4) (hts _ g5) rfl hd hc1 hc2 hKn.2.1 rfl fun H1 kC hkC e1 z1 o1 => ?_
    obtain ⟨hR1, had⟩ := x_R_push (q1 := .inr (ci, fs)) hR hlt ⟨_, g1, (u_born ty0 hts hin hKn hkC e1 g6).to g7⟩ z1 o1
    have hW := hK ls H1 locs hl hR1 (x_S_push hS z1 o1)
    rw [hn] at hW
    simp only [List.map_cons, x_v, had] at hW
    exact hW
  · cases ho
end XJ
