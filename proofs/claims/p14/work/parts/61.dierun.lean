/-! the run that comes to the refused store, and what it says of the machine -/
section XDr
abbrev xDRun : Type := Nat → Nat → Nat → xL → List Value → xH → Nat → Nat → Option (Nat × Nat)
/-- ft: the refused store; ds: the calls that come to it -/
noncomputable def x_dieS (pr : xPr) (ft : Nat → Nat → List Value → xH → Bool) (ds : Nat → Nat → Bool) (rn : xRun) (ih : xDRun) : xDRun := fun d j k lv st h nc ns => match (pr j).2 k lv st h nc ns with
  | none => match ft j k st h with
    | true => some (nc, ns)
    | false => none
  | some (.inl g) => ih d j g.1 g.2.1 g.2.2.1 g.2.2.2.1 g.2.2.2.2.1 g.2.2.2.2.2
  | some (.inr (.inl _)) => none
  | some (.inr (.inr z)) => match d with
    | 0 => none
    | d1 + 1 => match x_fit z.2.1 (pr z.1).1.2.2.1 with
      | false => none
      | true => match rn d1 z.1 0 (lv_args 0 z.2.1) [] z.2.2.2.2.2.1 0 0 with
        | some r => ih (d1 + 1) j z.2.2.1 z.2.2.2.1 (r.1.toList ++ z.2.2.2.2.1) r.2.1 (z.2.2.2.2.2.2.1 + r.2.2.1) (z.2.2.2.2.2.2.2 + r.2.2.2)
        | none => match ds j k with
          | false => none
          | true => match ih d1 z.1 0 (lv_args 0 z.2.1) [] z.2.2.2.2.2.1 0 0 with
            | none => none
            | some q => some (z.2.2.2.2.2.2.1 + q.1, z.2.2.2.2.2.2.2 + q.2)
noncomputable def x_die (pr : xPr) (ft : Nat → Nat → List Value → xH → Bool) (ds : Nat → Nat → Bool) (n : Nat) : xDRun := Nat.rec (motive := fun _ => xDRun) (fun _ _ _ _ _ _ _ _ => none) (fun n ih => x_dieS pr ft ds (x_run pr n) ih) n
theorem x_die_0 {pr : xPr} {ft : Nat → Nat → List Value → xH → Bool} {ds : Nat → Nat → Bool} {d j k : Nat} {lv : xL} {st : List Value} {h : xH} {nc ns : Nat} : x_die pr ft ds 0 d j k lv st h nc ns = none := rfl
theorem x_die_s {pr : xPr} {ft : Nat → Nat → List Value → xH → Bool} {ds : Nat → Nat → Bool} {n : Nat} : x_die pr ft ds (n + 1) = x_dieS pr ft ds (x_run pr n) (x_die pr ft ds n) := rfl
/-- the refused store does what it should, wherever ft says so -/
def x_ftok (u : xPi) (pr : xPr) (ft : Nat → Nat → List Value → xH → Bool) : Prop := ∀ (p : Program) (l : Launch) (e : Env) (R : Room) (s : State) (m : MethodId) (args : Array Value) (below : List Frame) (meth : Method) (c : Code) (j k : Nat),
  x_Ctx u (pr j).1 p s m args meth c → c.exceptionTable = #[] → x_Bad u s → ∀ (lv : xL) (st : List Value) (h : xH) (nc ns : Nat), ft j k st h = true → x_K u (pr j).1.2.2.1 p l e R s m args below meth c (Refuse.Cert p.tables below) k lv st h nc ns
section Act
variable {u : xPi} {pr : xPr} {l : Launch} {ft : Nat → Nat → List Value → xH → Bool} {ds : Nat → Nat → Bool}
theorem x_die_no {n d j : Nat} {lv : xL} {st : List Value} {h : xH} {nc ns : Nat} (h0 : (pr j).2 0 = x_no) (h1 : ∀ j st h, ft j 0 st h = false) : x_die pr ft ds n d j 0 lv st h nc ns = none := by
  cases n with
  | zero => rfl
  | succ n =>
    rw [x_die_s]
    unfold x_dieS
    rw [h0, h1]
    rfl
theorem x_die_act (hok : ∀ (j k : Nat), x_ok u (fun j => (pr j).1) (pr j).1 x_id k ((pr j).2 k)) (hpl : ∀ j, plainName (pr j).1.1.cls = true ∨ (pr j).2 0 = x_no) (hft : x_ftok u pr ft) (hf0 : ∀ j st h, ft j 0 st h = false)
    (hds : ∀ j k, ds j k = true → x_okD u (fun j => (pr j).1) (pr j).1 k ((pr j).2 k)) :
    ∀ (n d j k : Nat) (lv : xL) (st : List Value) (h : xH) (nc ns mc ms : Nat), x_die pr ft ds n d j k lv st h nc ns = some (mc, ms) →
      ∀ (p : Program) (e : Env) (s : State) (m : MethodId) (args : Array Value) (below : List Frame) (meth : Method) (c : Code), x_Ctx u (pr j).1 p s m args meth c → c.exceptionTable = #[] → x_Bad u s →
        nc ≤ mc ∧ ns ≤ ms ∧ x_K u (pr j).1.2.2.1 p l e (x_rm d mc ms) s m args below meth c (Refuse.Cert p.tables below) k lv st h nc ns := by
  intro n
  induction n with
  | zero => intro d j k lv st h nc ns mc ms hr; rw [x_die_0] at hr; cases hr
  | succ n ih =>
    intro d j k lv st h nc ns mc ms hr p e s m args below meth c hctx hx hB
    rw [x_die_s] at hr
    unfold x_dieS at hr
    have hk := hok j k p l e (x_rm d mc ms) s m args below meth c hctx (Nat.le_add_left 1 d) (by show 64 ≤ 64 * (d + 1); omega) lv st h nc ns
    split at hr
    · split at hr
      · rename_i hf
        cases hr
        exact ⟨Nat.le_refl _, Nat.le_refl _, hft p l e _ s m args below meth c j k hctx hx hB lv st h _ _ hf⟩
      · cases hr
    · rename_i g hg
      obtain ⟨a1, a2, a3⟩ := (hk _ hg).1 g rfl
      obtain ⟨b1, b2, b3⟩ := ih d j _ _ _ _ _ _ mc ms hr p e s m args below meth c hctx hx hB
      exact ⟨Nat.le_trans a1 b1, Nat.le_trans a2 b2, a3 _ b1 b2 b3⟩
    · cases hr
    · rename_i z hg
      obtain ⟨j', as, g⟩ := z
      obtain ⟨a1, a2, a3⟩ := (hk _ hg).2.2 j' as g rfl
      split at hr
      · cases hr
      · rename_i d1
        split at hr
        · cases hr
        · rename_i hfit
          split at hr
          · rename_i r2 hr2
            obtain ⟨r2, h2, mc2, ms2⟩ := r2
            obtain ⟨b1, b2, b3⟩ := ih (d1 + 1) j _ _ _ _ _ _ mc ms hr p e s m args below meth c hctx hx hB
            dsimp only at b1 b2 b3 hr2 hfit
            have hmet : x_Met u l (pr j').1 d1 as g.2.2.2.1 r2 h2 mc2 ms2 := x_met hok hpl hfit hr2
            exact ⟨by omega, by omega, a3 _ d1 r2 h2 mc2 ms2 hmet (Nat.le_refl _) (Nat.le_refl _) b1 b2 b3⟩
          · split at hr
            · cases hr
            · rename_i hs
              split at hr
              · cases hr
              · rename_i q hq
                obtain ⟨mc2, ms2⟩ := q
                cases hr
                dsimp only at hq hfit
                have hpl' : plainName (pr j').1.1.cls = true := (hpl j').elim id (fun q => by rw [x_die_no q hf0] at hq; cases hq)
                have hdy : x_Dy u l (pr j').1 d1 as g.2.2.2.1 mc2 ms2 := x_dy_of hpl' hfit (fun p e s m args below meth c hc hx hB => (ih d1 j' 0 _ _ _ _ _ mc2 ms2 hq p e s m args below meth c hc hx hB).2.2)
                obtain ⟨e1, e2, e3⟩ := hds j k hs p l e (x_rm (d1 + 1) (g.2.2.2.2.1 + mc2) (g.2.2.2.2.2 + ms2)) s m args below meth c hctx hx hB lv st h nc ns j' as g hg
                refine ⟨by dsimp only; omega, by dsimp only; omega, e3 d1 mc2 ms2 hdy (Nat.le_refl _) (Nat.le_refl _) ?_ ?_⟩
                · show nc + mc2 ≤ g.2.2.2.2.1 + mc2
                  rw [e1]; exact Nat.le_refl _
                · show ns + ms2 ≤ g.2.2.2.2.2 + ms2
                  rw [e2]; exact Nat.le_refl _
/-- a method that comes to the refused store never returns -/
theorem x_dy (hok : ∀ (j k : Nat), x_ok u (fun j => (pr j).1) (pr j).1 x_id k ((pr j).2 k)) (hpl : ∀ j, plainName (pr j).1.1.cls = true ∨ (pr j).2 0 = x_no) (hft : x_ftok u pr ft) (hf0 : ∀ j st h, ft j 0 st h = false)
    (hds : ∀ j k, ds j k = true → x_okD u (fun j => (pr j).1) (pr j).1 k ((pr j).2 k)) {n d j : Nat} {as : List Value} {h : xH} {mc ms : Nat} (hfit : x_fit as (pr j).1.2.2.1 = true)
    (hr : x_die pr ft ds n d j 0 (lv_args 0 as) [] h 0 0 = some (mc, ms)) : x_Dy u l (pr j).1 d as h mc ms :=
  x_dy_of ((hpl j).elim id (fun q => by rw [x_die_no q hf0] at hr; cases hr)) hfit (fun p e s m args below meth c hc hx hB => (x_die_act hok hpl hft hf0 hds n d j 0 _ _ _ _ _ mc ms hr p e s m args below meth c hc hx hB).2.2)
end Act
end XDr
