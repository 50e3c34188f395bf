section XC
theorem x_l_args (ad : Nat → Nat) : ∀ (as : List Value) (i : Nat), x_l ad (lv_args i as) = lv_args i (as.map (x_v ad)) := by
  intro as
  induction as with
  | nil => intro i; rfl
  | cons a r ih =>
    intro i
    have hc : (x_v ad a).category = a.category := by cases a <;> rfl
    have h := ih (if a.category = 2 then i + 2 else i + 1)
    simp only [x_l, lv_args, List.map_cons, hc] at h ⊢
    rw [h]
theorem x_sl_len (ad : Nat → Nat) (as : List Value) : (lg_sl (as.map (x_v ad))).length = (lg_sl as).length := by
  induction as with
  | nil => rfl
  | cons a r ih =>
    cases a <;> simp_all [lg_sl, x_v, Value.category]
section Act
variable {u : xPi} {pr : xPr} {l : Launch}
theorem x_run_no {n d j : Nat} {lv : xL} {st : List Value} {h : xH} {nc ns : Nat} (h0 : (pr j).2 0 = x_no) : x_run pr n d j 0 lv st h nc ns = none := by
  cases n with
  | zero => rfl
  | succ n =>
    rw [x_run_s]
    unfold x_step
    rw [h0]
    rfl
/-- a contract out of a run of one activation -/
theorem x_met_of {n d j : Nat} {as : List Value} {h h1 : xH} {r : Option Value} {mc ms : Nat} (hpl : plainName (pr j).1.1.cls = true) (hfit : x_fit as (pr j).1.2.2.1 = true)
    (act : ∀ (p : Program) (e : Env) (s : State) (m : MethodId) (args : Array Value) (below : List Frame) (meth : Method) (c : Code), x_Ctx u (pr j).1 p s m args meth c →
      x_K u (pr j).1.2.2.1 p l e (x_rm d mc ms) s m args below meth c (MQ below (x_Qc u r h1) args s mc ms (xp_A u)) 0 (lv_args 0 as) [] h 0 0) : x_Met u l (pr j).1 d as h r h1 mc ms := by
  refine Met.ofW (cc := (pr j).1.2.1) (maxL := (pr j).1.2.2.1) (ret := (pr j).1.2.2.2) hpl rfl ?_
  intro p e s m args below meth c s₁ B hml hv
  obtain ⟨rfl, hE, hR⟩ := hv
  have hctx : x_Ctx u (pr j).1 p s m (as.map (x_v (xp_ad u))).toArray meth c := ⟨B.exec, B.bytes, hml, findClass_of_methodNamed B.named, (fun w hw => atoms_spec (ws := x_ws u (pr j).1) B.pre w (List.mem_cons_of_mem _ hw)), B.returns, B.notSynchronized, (name_of_methodNamed B.named B.method).1, hE⟩
  have hfit' : (lg_sl (as.map (x_v (xp_ad u)))).length ≤ (pr j).1.2.2.1 := by rw [x_sl_len]; exact of_decide_eq_true hfit
  have hl := lv_entry (as.map (x_v (xp_ad u))) (n := (pr j).1.2.2.1) hfit'
  rw [lg_entry_eq]
  exact act p e s m _ below meth c hctx _ s.heap [] (by rw [x_l_args]; exact hl) hR va_S.rf
theorem x_act (hok : ∀ (j k : Nat), x_ok u (fun j => (pr j).1) (pr j).1 x_id k ((pr j).2 k)) (hpl : ∀ j, plainName (pr j).1.1.cls = true ∨ (pr j).2 0 = x_no) :
    ∀ (n d j k : Nat) (lv : xL) (st : List Value) (h : xH) (nc ns : Nat) (r : Option Value) (h1 : xH) (mc ms : Nat), x_run pr n d j k lv st h nc ns = some (r, h1, mc, ms) →
      ∀ (p : Program) (e : Env) (s : State) (m : MethodId) (args : Array Value) (below : List Frame) (meth : Method) (c : Code), x_Ctx u (pr j).1 p s m args meth c →
        nc ≤ mc ∧ ns ≤ ms ∧ x_K u (pr j).1.2.2.1 p l e (x_rm d mc ms) s m args below meth c (MQ below (x_Qc u r h1) args s mc ms (xp_A u)) k lv st h nc ns := by
  intro n
  induction n with
  | zero => intro d j k lv st h nc ns r h1 mc ms hr; rw [x_run_0] at hr; cases hr
  | succ n ih =>
    intro d j k lv st h nc ns r h1 mc ms hr p e s m args below meth c hctx
    rw [x_run_s] at hr
    unfold x_step at hr
    · have hk := hok j k p l e (x_rm d mc ms) s m args below meth c hctx (Nat.le_add_left 1 d) (by show 64 ≤ 64 * (d + 1); omega) lv st h nc ns
      split at hr
      · cases hr
      · rename_i g hg
        obtain ⟨a1, a2, a3⟩ := (hk _ hg).1 g rfl
        obtain ⟨b1, b2, b3⟩ := ih d j _ _ _ _ _ _ r h1 mc ms hr p e s m args below meth c hctx
        exact ⟨Nat.le_trans a1 b1, Nat.le_trans a2 b2, a3 _ b1 b2 b3⟩
      · rename_i r' hg
        obtain ⟨a1, a2, a3⟩ := (hk _ hg).2.1 r' rfl
        cases hr
        dsimp only at a1 a2
        subst a1
        subst a2
        exact ⟨Nat.le_refl _, Nat.le_refl _, a3 _ (fun t h2 h3 => ⟨⟨rfl, h2⟩, h3⟩)⟩
      · rename_i z hg
        obtain ⟨j', as, g⟩ := z
        obtain ⟨a1, a2, a3⟩ := (hk _ hg).2.2 j' as g rfl
        split at hr
        · cases hr
        · rename_i d1
          split at hr
          · cases hr
          · rename_i hfit
            split at hr
            · cases hr
            · rename_i r2 hr2
              obtain ⟨r2, h2, mc2, ms2⟩ := r2
              obtain ⟨b1, b2, b3⟩ := ih (d1 + 1) j _ _ _ _ _ _ r h1 mc ms hr p e s m args below meth c hctx
              dsimp only at b1 b2 b3 hr2 hfit
              have hpl' : plainName (pr j').1.1.cls = true := (hpl j').elim id (fun q => by rw [x_run_no q] at hr2; cases hr2)
              have hmet : x_Met u l (pr j').1 d1 as g.2.2.2.1 r2 h2 mc2 ms2 := x_met_of (n := n) hpl' hfit (fun p e s m args below meth c hc => (ih d1 j' 0 _ _ _ _ _ r2 h2 mc2 ms2 hr2 p e s m args below meth c hc).2.2)
              exact ⟨by omega, by omega, a3 _ d1 r2 h2 mc2 ms2 hmet (Nat.le_refl _) (Nat.le_refl _) b1 b2 b3⟩
/-- A RUN OF A METHOD IS A CONTRACT OF IT -/
theorem x_met (hok : ∀ (j k : Nat), x_ok u (fun j => (pr j).1) (pr j).1 x_id k ((pr j).2 k)) (hpl : ∀ j, plainName (pr j).1.1.cls = true ∨ (pr j).2 0 = x_no)
    {n d j : Nat} {as : List Value} {h h1 : xH} {r : Option Value} {mc ms : Nat} (hfit : x_fit as (pr j).1.2.2.1 = true) (hr : x_run pr n d j 0 (lv_args 0 as) [] h 0 0 = some (r, h1, mc, ms)) : x_Met u l (pr j).1 d as h r h1 mc ms :=
  x_met_of (n := n) ((hpl j).elim id (fun q => by rw [x_run_no q] at hr; cases hr)) hfit (fun p e s m args below meth c hc => (x_act hok hpl n d j 0 _ _ _ _ _ r h1 mc ms hr p e s m args below meth c hc).2.2)
end Act
end XC
