section XRu
/-- more depth does no harm -/
theorem xe_up {d j k : Nat} {lv : xL} {st : List Value} {h : xH} {nc ns : Nat} {r : Option Value × xH × Nat × Nat} (he : x_E d j k lv st h nc ns r) : x_E (d + 1) j k lv st h nc ns r :=
  he (fun d j k lv st h nc ns r => x_E (d + 1) j k lv st h nc ns r) ⟨fun _ _ _ _ _ _ _ _ _ _ hs hr => xe_go hs hr, fun _ _ _ _ _ _ _ _ _ hs => xe_ret hs, fun _ _ _ _ _ _ _ _ _ _ _ _ _ hs hf hc hr => xe_call hs hf hc hr, fun _ _ _ _ _ _ _ _ _ _ hs hr => xe_weak hs hr⟩
theorem q_up {d j k : Nat} {lv : xL} {st : List Value} {h : xH} {nc ns : Nat} {Z : Option Value → xH → Nat → Nat → Prop} (hw : x_W d j k lv st h nc ns Z) : ∀ n, x_W (d + n) j k lv st h nc ns Z
  | 0 => hw
  | n + 1 => by
    obtain ⟨v, h', mc, ms, e, z⟩ := q_up hw n
    exact ⟨v, h', mc, ms, xe_up e, z⟩
theorem q_le {d d2 j k : Nat} {lv : xL} {st : List Value} {h : xH} {nc ns : Nat} {Z : Option Value → xH → Nat → Nat → Prop} (hd : d ≤ d2) (hw : x_W d j k lv st h nc ns Z) : x_W d2 j k lv st h nc ns Z := by
  obtain ⟨n, rfl⟩ := Nat.exists_eq_add_of_le hd
  exact q_up hw n
theorem cat_i {x : Int32} : (Value.int x).category = 1 := rfl
theorem cat_l {x : Int64} : (Value.long x).category = 2 := rfl
section A
variable {d j k k1 kt : Nat} {lv lv' : xL} {st : List Value} {h : xH} {nc ns : Nat} {Z : Option Value → xH → Nat → Nat → Prop} {o o' : Option Nat}
theorem q_ald {i : Nat} (hc : (x_pr j).2 k = xi_aload k1 i) (hg : x_get lv i = some (rv o)) (hr : x_W d j k1 lv (rv o :: st) h nc ns Z) : x_W d j k lv st h nc ns Z := by
  refine q_1 ?_ hr
  rw [hc]
  unfold xi_aload
  rw [hg]
  cases o <;> rfl
theorem q_ast {i nL : Nat} (hc : (x_pr j).2 k = xi_astore k1 i nL) (hi : Nat.blt i nL = true) (hs : ∀ q ∈ lv', q ∈ x_st1 lv i (rv o)) (hr : x_W d j k1 lv' st h nc ns Z) : x_W d j k lv (rv o :: st) h nc ns Z := by
  refine q_1 ?_ (q_w hs hr)
  rw [hc]
  unfold xi_astore
  cases o <;> (dsimp only [rv]; rw [if_pos (show _ < _ from Nat.le_of_ble_eq_true hi)])
theorem q_rem {x z : Int32} (hc : (x_pr j).2 k = xi_irem k1) (hz : ¬ z = 0) (hr : x_W d j k1 lv (.int (x - x / z * z) :: st) h nc ns Z) : x_W d j k lv (.int z :: .int x :: st) h nc ns Z := by
  refine q_1 ?_ hr
  rw [hc]
  unfold xi_irem
  dsimp only
  rw [if_neg hz]
def nz (x : Int32) : Option Unit := if x = 0 then none else some ()
theorem nz_ne {x : Int32} {u : Unit} (h : nz x = some u) : ¬ x = 0 := by
  unfold nz at h
  split at h
  · cases h
  · assumption
theorem q_null (hc : (x_pr j).2 k = xi_null k1) (hr : x_W d j k1 lv (rv none :: st) h nc ns Z) : x_W d j k lv st h nc ns Z := by
  refine q_1 ?_ hr
  rw [hc]
  rfl
theorem q_val {a : Nat} (hc : (x_pr j).2 k = xi_val k1 (.ref a)) (hr : x_W d j k1 lv (rv (some a) :: st) h nc ns Z) : x_W d j k lv st h nc ns Z := by
  refine q_1 ?_ hr
  rw [hc]
  rfl
theorem q_dup (hc : (x_pr j).2 k = xi_dup k1) (hr : x_W d j k1 lv (rv o :: rv o :: st) h nc ns Z) : x_W d j k lv (rv o :: st) h nc ns Z := by
  refine q_1 ?_ hr
  rw [hc]
  unfold xi_dup
  dsimp only
  rw [if_pos (rv_cat o)]
theorem q_pop (hc : (x_pr j).2 k = xi_pop k1) (hr : x_W d j k1 lv st h nc ns Z) : x_W d j k lv (rv o :: st) h nc ns Z := by
  refine q_1 ?_ hr
  rw [hc]
  unfold xi_pop
  dsimp only
  rw [if_pos (rv_cat o)]
theorem q_dx1 {x : Int32} (hc : (x_pr j).2 k = xi_dup_x1 k1) (hr : x_W d j k1 lv (.int x :: rv o :: .int x :: st) h nc ns Z) : x_W d j k lv (.int x :: rv o :: st) h nc ns Z := by
  refine q_1 ?_ hr
  rw [hc]
  unfold xi_dup_x1
  dsimp only
  rw [if_pos ⟨rfl, rv_cat o⟩]
theorem q_ifn (hc : (x_pr j).2 k = xi_ifnull kt k1) (hr : x_W d j (if o = none then kt else k1) lv st h nc ns Z) : x_W d j k lv (rv o :: st) h nc ns Z := by
  refine q_1 ?_ hr
  rw [hc]
  unfold xi_ifnull
  cases o <;> rfl
theorem q_ifnn (hc : (x_pr j).2 k = xi_ifnonnull kt k1) (hr : x_W d j (if o = none then k1 else kt) lv st h nc ns Z) : x_W d j k lv (rv o :: st) h nc ns Z := by
  refine q_1 ?_ hr
  rw [hc]
  unfold xi_ifnonnull
  cases o <;> rfl
theorem q_acmp {eq w : Bool} (hc : (x_pr j).2 k = xi_acmp eq kt k1) (hw : x_same o o' = some w) (hr : x_W d j (if w = eq then kt else k1) lv st h nc ns Z) : x_W d j k lv (rv o' :: rv o :: st) h nc ns Z := by
  refine q_1 ?_ hr
  rw [hc]
  unfold xi_acmp
  have e : ∀ o, x_rr (rv o) = some o := fun o => by cases o <;> rfl
  dsimp only
  rw [e, e]
  dsimp only
  rw [hw]
theorem q_aret (hc : (x_pr j).2 k = xi_areturn) (hz : Z (some (rv o)) h nc ns) : x_W d j k lv [rv o] h nc ns Z := by
  refine q_r ?_ hz
  rw [hc]
  unfold xi_areturn
  cases o <;> rfl
/-- a truth value -/
def gz (x : Int32) : Option Unit := if x = 0 ∨ x = 1 then some () else none
theorem gz_or {x : Int32} {u : Unit} (h : gz x = some u) : x = 0 ∨ x = 1 := by
  unfold gz at h
  split at h
  · assumption
  · cases h
theorem gz_fits {x : Int32} {u : Unit} (h : gz x = some u) : fits .boolean (.int x) = true := by rcases gz_or h with rfl | rfl <;> rfl
theorem q_zret {x : Int32} {u : Unit} (hc : (x_pr j).2 k = xi_zreturn .boolean) (hg : gz x = some u) (hz : Z (some (.int x)) h nc ns) : x_W d j k lv [.int x] h nc ns Z := by
  refine q_r ?_ hz
  rw [hc]
  unfold xi_zreturn
  rcases gz_or hg with rfl | rfl <;> rfl
theorem fit_o {s : String} : fits (.object s) (rv o) = true := by cases o <;> rfl
theorem fit_a {t : FieldType} : fits (.array t) (rv o) = true := by cases o <;> rfl
theorem q_obj (hc : (x_pr j).2 k = xi_obj k1) {a : Nat} (ho : o = some a) (hr : x_W d j k1 lv [] h nc ns Z) : x_W d j k lv [rv o] h nc ns Z := by
  subst ho
  refine q_1 ?_ hr
  rw [hc]
  rfl
theorem q_get {ci kf : Nat} {fs : List Value} {tab : List (Nat × Nat)} {v : Value} (hc : (x_pr j).2 k = xi_getfield k1 tab) (hz : x_pt h o (.inr (ci, fs))) (hl : x_look tab ci = some kf) (hv : fs[kf]? = some v) (hr : x_W d j k1 lv (v :: st) h nc ns Z) : x_W d j k lv (rv o :: st) h nc ns Z := by
  obtain ⟨a, rfl, hz⟩ := hz
  refine q_1 ?_ hr
  rw [hc]
  unfold xi_getfield
  dsimp only [rv]
  rw [hz]
  dsimp only
  rw [hl]
  dsimp only
  rw [hv]
theorem q_put {ci kf a : Nat} {fs : List Value} {ty : FieldType} {tab : List (Nat × Nat)} {v : Value} (hc : (x_pr j).2 k = xi_putfield k1 ty tab) (hz : h[a]? = some (.inr (ci, fs))) (hl : x_look tab ci = some kf) (hb : fits ty v = true) (hn : kf < fs.length) (hr : x_W d j k1 lv st (h.set a (.inr (ci, fs.set kf v))) nc ns Z) : x_W d j k lv (v :: rv (some a) :: st) h nc ns Z := by
  refine q_1 ?_ hr
  rw [hc]
  unfold xi_putfield
  dsimp only [rv]
  rw [hz]
  dsimp only
  rw [hl]
  dsimp only
  rw [if_pos ⟨hb, hn⟩]
theorem q_cv {ci j' n : Nat} {fs : List Value} {tab : List (Nat × Nat)} {rr : List Value} (hc : (x_pr j).2 k = xi_callV k1 n tab) (hst : st.drop n = rv o :: rr) (hz : x_pt h o (.inr (ci, fs))) (hl : x_look tab ci = some j') (hs : (rr.map fun v => v.category).sum ≤ 8) (hf : x_fit (rv o :: (st.take n).reverse) (x_pr j').1.2.2.1 = true) (hr : x_W d j' 0 (lv_args 0 (rv o :: (st.take n).reverse)) [] h 0 0 (fun v h1 mc ms => x_W (d + 1) j k1 lv (v.toList ++ rr) h1 (nc + mc) (ns + ms) Z)) : x_W (d + 1) j k lv st h nc ns Z := by
  obtain ⟨a, rfl, hz⟩ := hz
  refine q_c ?_ hf hr
  rw [hc]
  unfold xi_callV
  rw [hst]
  dsimp only [rv]
  rw [hz]
  dsimp only
  rw [hl]
  dsimp only
  rw [if_pos hs]
theorem q_cs {j' n : Nat} (hc : (x_pr j).2 k = xi_callS k1 n j') (hn : Nat.ble n st.length = true) (hs : ((st.drop n).map fun v => v.category).sum ≤ 8) (hf : x_fit (st.take n).reverse (x_pr j').1.2.2.1 = true) (hr : x_W d j' 0 (lv_args 0 (st.take n).reverse) [] h 0 0 (fun v h1 mc ms => x_W (d + 1) j k1 lv (v.toList ++ st.drop n) h1 (nc + mc) (ns + ms) Z)) : x_W (d + 1) j k lv st h nc ns Z := by
  refine q_c ?_ hf hr
  rw [hc]
  unfold xi_callS
  rw [if_pos ⟨Nat.le_of_ble_eq_true hn, hs⟩]
theorem q_ci {j' n a : Nat} {rr : List Value} (ho : o = some a) (hc : (x_pr j).2 k = xi_callI k1 n j') (hst : st.drop n = rv o :: rr) (hs : (rr.map fun v => v.category).sum ≤ 8) (hf : x_fit (rv o :: (st.take n).reverse) (x_pr j').1.2.2.1 = true) (hr : x_W d j' 0 (lv_args 0 (rv o :: (st.take n).reverse)) [] h 0 0 (fun v h1 mc ms => x_W (d + 1) j k1 lv (v.toList ++ rr) h1 (nc + mc) (ns + ms) Z)) : x_W (d + 1) j k lv st h nc ns Z := by
  subst ho
  refine q_c ?_ hf hr
  rw [hc]
  unfold xi_callI
  rw [hst]
  dsimp only [rv]
  rw [if_pos hs]
theorem q_cast {cs : List Nat} (hc : (x_pr j).2 k = xi_checkcast k1 cs) (hz : o = none ∨ ∃ ci fs, x_pt h o (.inr (ci, fs)) ∧ ci ∈ cs) (hr : x_W d j k1 lv (rv o :: st) h nc ns Z) : x_W d j k lv (rv o :: st) h nc ns Z := by
  refine q_1 ?_ hr
  rw [hc]
  unfold xi_checkcast
  rcases hz with rfl | ⟨ci, fs, ⟨a, rfl, hz⟩, hm⟩
  · rfl
  · dsimp only [rv]
    rw [hz]
    dsimp only
    rw [if_pos hm]
end A
section B
variable {d j k k1 kt : Nat} {lv lv' : xL} {st : List Value} {h : xH} {nc ns : Nat} {Z : Option Value → xH → Nat → Nat → Prop} {o : Option Nat} {C F C0 : Pic}
/-- the answer, and the picture then -/
def Qp (v0 : Option Value) (C1 F C0 : Pic) : Option Value → xH → Nat → Nat → Prop := fun v h nc ns => v = v0 ∧ RepN h C1 F C0 nc ns
theorem c_cvv {ci j' n : Nat} {fs : List Value} {tab : List (Nat × Nat)} {rr : List Value} (hc : (x_pr j).2 k = xi_callV k1 n tab) (hst : st.drop n = rv o :: rr) (hz : x_pt h o (.inr (ci, fs))) (hl : x_look tab ci = some j') (hs : (rr.map fun v => v.category).sum ≤ 8) (hf : x_fit (rv o :: (st.take n).reverse) (x_pr j').1.2.2.1 = true) {C1 : Pic} (hw : x_W d j' 0 (lv_args 0 (rv o :: (st.take n).reverse)) [] h 0 0 (Qp none C1 F C)) (hR : RepN h C F C0 nc ns) (hk : ∀ h nc ns, RepN h C1 F C0 nc ns → x_W (d + 1) j k1 lv rr h nc ns Z) : x_W (d + 1) j k lv st h nc ns Z := by
  refine q_cv hc hst hz hl hs hf (q_m hw ?_)
  rintro v h1 mc ms ⟨rfl, h2⟩
  exact hk _ _ _ (hR.tr h2)
theorem c_cvr {ci j' n : Nat} {fs : List Value} {tab : List (Nat × Nat)} {rr : List Value} (hc : (x_pr j).2 k = xi_callV k1 n tab) (hst : st.drop n = rv o :: rr) (hz : x_pt h o (.inr (ci, fs))) (hl : x_look tab ci = some j') (hs : (rr.map fun v => v.category).sum ≤ 8) (hf : x_fit (rv o :: (st.take n).reverse) (x_pr j').1.2.2.1 = true) {w : Value} {C1 : Pic} (hw : x_W d j' 0 (lv_args 0 (rv o :: (st.take n).reverse)) [] h 0 0 (Qp (some w) C1 F C)) (hR : RepN h C F C0 nc ns) (hk : ∀ h nc ns, RepN h C1 F C0 nc ns → x_W (d + 1) j k1 lv (w :: rr) h nc ns Z) : x_W (d + 1) j k lv st h nc ns Z := by
  refine q_cv hc hst hz hl hs hf (q_m hw ?_)
  rintro v h1 mc ms ⟨rfl, h2⟩
  exact hk _ _ _ (hR.tr h2)
theorem c_csv {j' n : Nat} {rr : List Value} (hc : (x_pr j).2 k = xi_callS k1 n j') (hst : st.drop n = rr) (hn : Nat.ble n st.length = true) (hs : (rr.map fun v => v.category).sum ≤ 8) (hf : x_fit (st.take n).reverse (x_pr j').1.2.2.1 = true) {C1 : Pic} (hw : x_W d j' 0 (lv_args 0 (st.take n).reverse) [] h 0 0 (Qp none C1 F C)) (hR : RepN h C F C0 nc ns) (hk : ∀ h nc ns, RepN h C1 F C0 nc ns → x_W (d + 1) j k1 lv rr h nc ns Z) : x_W (d + 1) j k lv st h nc ns Z := by
  refine q_cs hc hn (by rw [hst]; exact hs) hf (q_m hw ?_)
  rintro v h1 mc ms ⟨rfl, h2⟩
  rw [hst]
  exact hk _ _ _ (hR.tr h2)
theorem c_csr {j' n : Nat} {rr : List Value} (hc : (x_pr j).2 k = xi_callS k1 n j') (hst : st.drop n = rr) (hn : Nat.ble n st.length = true) (hs : (rr.map fun v => v.category).sum ≤ 8) (hf : x_fit (st.take n).reverse (x_pr j').1.2.2.1 = true) {w : Value} {C1 : Pic} (hw : x_W d j' 0 (lv_args 0 (st.take n).reverse) [] h 0 0 (Qp (some w) C1 F C)) (hR : RepN h C F C0 nc ns) (hk : ∀ h nc ns, RepN h C1 F C0 nc ns → x_W (d + 1) j k1 lv (w :: rr) h nc ns Z) : x_W (d + 1) j k lv st h nc ns Z := by
  refine q_cs hc hn (by rw [hst]; exact hs) hf (q_m hw ?_)
  rintro v h1 mc ms ⟨rfl, h2⟩
  rw [hst]
  exact hk _ _ _ (hR.tr h2)
theorem c_civ {j' n a : Nat} {rr : List Value} (ho : o = some a) (hc : (x_pr j).2 k = xi_callI k1 n j') (hst : st.drop n = rv o :: rr) (hs : (rr.map fun v => v.category).sum ≤ 8) (hf : x_fit (rv o :: (st.take n).reverse) (x_pr j').1.2.2.1 = true) {C1 : Pic} (hw : x_W d j' 0 (lv_args 0 (rv o :: (st.take n).reverse)) [] h 0 0 (Qp none C1 F C)) (hR : RepN h C F C0 nc ns) (hk : ∀ h nc ns, RepN h C1 F C0 nc ns → x_W (d + 1) j k1 lv rr h nc ns Z) : x_W (d + 1) j k lv st h nc ns Z := by
  refine q_ci ho hc hst hs hf (q_m hw ?_)
  rintro v h1 mc ms ⟨rfl, h2⟩
  exact hk _ _ _ (hR.tr h2)
/-! records -/
def Pic.g (C : Pic) (ci : Nat) (o : Option Nat) : Option Rec := o.bind (C.ob ci)
def Pic.p (C : Pic) (ci : Nat) (o : Option Nat) (g : Rec → Rec) : Option Pic := o.bind fun a => (C.ob ci a).bind fun r => some (C.sob (xup2 C.ob ci a (g r)))
def Pic.kk (C : Pic) (ci : Nat) (o : Option Nat) : Option Unit := match o with
  | none => some ()
  | some a => (C.ob ci a).map fun _ => ()
def Pic.n (C : Pic) (ci n : Nat) : Option (Nat × Pic) := if C.nx < xT then some (C.nx, (C.sob (xup2 C.ob ci C.nx r0)).mk (C.nx + 1) (C.sl + n) (xupK C.kd C.nx 1)) else none
theorem no_some {α : Type} {x : Option α} {y : α} (h1 : x = some y) (h2 : x = none) : False := by rw [h2] at h1; cases h1
theorem e_ob {ci : Nat} {r : Rec} (hR : RepN h C F C0 nc ns) (hr : C.g ci o = some r) : x_pt h o (.inr (ci, x_F ci r)) := by
  cases o with
  | none => cases hr
  | some a => exact ⟨a, rfl, ((hR.1.1 a).1 ci r hr).2⟩
theorem k_ob {ci : Nat} {cs : List Nat} {u : Unit} (hR : RepN h C F C0 nc ns) (hr : C.kk ci o = some u) (hm : ci ∈ cs) : o = none ∨ ∃ ci fs, x_pt h o (.inr (ci, fs)) ∧ ci ∈ cs := by
  cases o with
  | none => exact Or.inl rfl
  | some a =>
    unfold Pic.kk at hr
    dsimp only at hr
    cases e : C.ob ci a with
    | none => rw [e] at hr; cases hr
    | some r => exact Or.inr ⟨_, _, e_ob hR (o := some a) (r := r) e, hm⟩
theorem Rep.put {ci a : Nat} {r x : Rec} (hR : Rep h C F) (hr : C.ob ci a = some r) : Rep (h.set a (.inr (ci, x_F ci x))) (C.sob (xup2 C.ob ci a x)) F := by
  have h1 := hR.1 a
  obtain ⟨k1, c1⟩ := h1.1 ci r hr
  have ha : a < h.length := (List.getElem?_eq_some_iff.mp c1).1
  obtain ⟨-, n2, n3, n4, n5, n6, n7, n8⟩ := h1.only hR.2.2.2.2 k1 (by omega)
  refine hR.chg (a := a) (by omega) rfl rfl (fun b hb => ⟨fun i => xup2_ne hb, fun _ => rfl, rfl, rfl, rfl, rfl, rfl, rfl⟩) (fun b hb => by omega) ⟨?_, ?_, ?_, ?_, ?_, ?_, ?_, ?_, ?_⟩
  · intro ci' r' hr'
    refine ⟨k1, ?_⟩
    rw [List.getElem?_set_self ha]
    rcases xup2_eq hr' with ⟨rfl, rfl⟩ | ⟨hne, hr''⟩
    · rfl
    · have c2 := (h1.1 ci' r' hr'').2
      rw [c1] at c2
      exact absurd (Prod.mk.inj (Sum.inr.inj (Option.some.inj c2))).1.symm hne
  · exact fun t l hl => (no_some hl (n2 t (by omega))).elim
  · exact fun q hl => (no_some hl (n3 (by omega))).elim
  · exact fun q hl => (no_some hl (n4 (by omega))).elim
  · exact fun q hl => (no_some hl (n5 (by omega))).elim
  · exact fun q hl => (no_some hl (n6 (by omega))).elim
  · exact fun q hl => (no_some hl (n7 (by omega))).elim
  · exact fun q hl => (no_some hl (n8 (by omega))).elim
  · intro _
    rw [List.length_set]
    exact ha
theorem p_ob {ci : Nat} {g : Rec → Rec} {C1 : Pic} {tab : List (Nat × Nat)} {ty : FieldType} {kf : Nat} {v : Value} (hc : (x_pr j).2 k = xi_putfield k1 ty tab) (hR : RepN h C F C0 nc ns) (hm : C.p ci o g = some C1) (hl : x_look tab ci = some kf) (hb : fits ty v = true) (hn : ∀ r, kf < (x_F ci r).length) (he : ∀ r, (x_F ci r).set kf v = x_F ci (g r)) (hk : ∀ h, RepN h C1 F C0 nc ns → x_W d j k1 lv st h nc ns Z) : x_W d j k lv (v :: rv o :: st) h nc ns Z := by
  unfold Pic.p at hm
  obtain ⟨a, ho, hm1⟩ := ob hm
  obtain ⟨r, hr, hm2⟩ := ob hm1
  subst ho
  cases hm2
  obtain ⟨hR, h1, h2⟩ := hR
  refine q_put (ci := ci) (fs := x_F ci r) hc ((hR.1 a).1 ci r hr).2 hl hb (hn r) ?_
  rw [he]
  exact hk _ ⟨hR.put hr, h1, h2⟩
theorem Rep.mkob {ci n : Nat} (hR : Rep h C F) (hl : C.nx < xT) : Rep (h ++ [.inr (ci, x_F ci r0)]) ((C.sob (xup2 C.ob ci C.nx r0)).mk (C.nx + 1) (C.sl + n) (xupK C.kd C.nx 1)) F := by
  have h0 : C.kd C.nx = 0 := by
    cases e : C.kd C.nx with
    | zero => rfl
    | succ m => exact absurd ((hR.1 C.nx).2.2.2.2.2.2.2.2 (by omega)) (by have := hR.2.2.2.1; omega)
  obtain ⟨n1, n2, n3, n4, n5, n6, n7, n8⟩ := (hR.1 C.nx).none h0 hl
  have hlen := hR.2.2.2.1
  refine hR.new 1 0 hl rfl rfl (fun b hb => ⟨fun i => xup2_ne hb, fun _ => rfl, rfl, rfl, rfl, rfl, rfl, rfl⟩) ⟨?_, ?_, ?_, ?_, ?_, ?_, ?_, ?_, ?_⟩
  · intro ci' r' hr'
    refine ⟨xupK_eq, ?_⟩
    rcases xup2_eq hr' with ⟨rfl, rfl⟩ | ⟨hne, hr''⟩
    · rw [← hlen]
      simp
    · exact (no_some hr'' (n1 ci')).elim
  · exact fun t l hl => (no_some hl (n2 t)).elim
  · exact fun q hl => (no_some hl n3).elim
  · exact fun q hl => (no_some hl n4).elim
  · exact fun q hl => (no_some hl n5).elim
  · exact fun q hl => (no_some hl n6).elim
  · exact fun q hl => (no_some hl n7).elim
  · exact fun q hl => (no_some hl n8).elim
  · intro _
    rw [List.length_append, hlen]
    exact Nat.lt_succ_self _
theorem n_ob {ci n : Nat} {fs : List Value} {p : Nat × Pic} (hc : (x_pr j).2 k = xi_new k1 ci n fs) (hf : fs = x_F ci r0) (hR : RepN h C F C0 nc ns) (hm : C.n ci n = some p) (hk : ∀ h, RepN h p.2 F C0 (nc + 1) (ns + n) → x_W d j k1 lv (rv (some p.1) :: st) h (nc + 1) (ns + n) Z) : x_W d j k lv st h nc ns Z := by
  subst hf
  obtain ⟨hR, h1, h2⟩ := hR
  unfold Pic.n at hm
  split at hm
  · rename_i hl
    cases hm
    have hlen : h.length = C.nx := hR.2.2.2.1
    have key := hk (h ++ [.inr (ci, x_F ci r0)]) ⟨hR.mkob hl, by show C0.nx + (nc + 1) = C.nx + 1; omega, by show C0.sl + (ns + n) = C.sl + n; omega⟩
    refine q_1 ?_ key
    rw [hc]
    unfold xi_new
    rw [hlen, if_pos hl]
    rfl
  · cases hm
/-! arrays of numbers -/
def Pic.la (C : Pic) (t : Nat) (o : Option Nat) : Option Nat := (o.bind (C.ar t)).map List.length
def Pic.ga (C : Pic) (t : Nat) (o : Option Nat) (i : Int32) : Option Int32 := (o.bind (C.ar t)).bind fun l => if i < 0 ∨ l.length ≤ i.toNatClampNeg then none else l[i.toNatClampNeg]?
def Pic.sa (C : Pic) (t : Nat) (o : Option Nat) (i x : Int32) : Option Pic := o.bind fun a => (C.ar t a).bind fun l => if i < 0 ∨ l.length ≤ i.toNatClampNeg ∨ xT ≤ a then none else some (C.sar (xup2 C.ar t a (l.set i.toNatClampNeg x)))
def Pic.na (C : Pic) (t b : Nat) (n : Int32) : Option (Nat × Pic) := if ¬ n < 0 ∧ n.toNatClampNeg * b ≤ 536870912 ∧ C.nx < xT then some (C.nx, (C.sar (xup2 C.ar t C.nx (List.replicate n.toNatClampNeg 0))).mk (C.nx + 1) (C.sl + n.toNatClampNeg) (xupK C.kd C.nx (10 + t))) else none
theorem Rep.mkar {t n m : Nat} (ht : t < 5) (hR : Rep h C F) (hl : C.nx < xT) : Rep (h ++ [.inl (t, n, [])]) ((C.sar (xup2 C.ar t C.nx (List.replicate n 0))).mk (C.nx + 1) (C.sl + m) (xupK C.kd C.nx (10 + t))) F := by
  have h0 : C.kd C.nx = 0 := by
    cases e : C.kd C.nx with
    | zero => rfl
    | succ m => exact absurd ((hR.1 C.nx).2.2.2.2.2.2.2.2 (by omega)) (by have := hR.2.2.2.1; omega)
  obtain ⟨n1, n2, n3, n4, n5, n6, n7, n8⟩ := (hR.1 C.nx).none h0 hl
  have hlen := hR.2.2.2.1
  refine hR.new (10 + t) 0 hl rfl rfl (fun b hb => ⟨fun _ => rfl, fun i => xup2_ne hb, rfl, rfl, rfl, rfl, rfl, rfl⟩) ⟨?_, ?_, ?_, ?_, ?_, ?_, ?_, ?_, ?_⟩
  · exact fun t l hl => (no_some hl (n1 t)).elim
  · intro t' l' hl'
    rcases xup2_eq hl' with ⟨rfl, rfl⟩ | ⟨hne, hr''⟩
    · refine Or.inr ⟨xupK_eq, ht, [], ?_, ?_⟩
      · rw [← hlen]
        simp
      · rw [List.length_replicate]
        exact byOf_nil
    · exact (no_some hr'' (n2 t')).elim
  · exact fun q hl => (no_some hl n3).elim
  · exact fun q hl => (no_some hl n4).elim
  · exact fun q hl => (no_some hl n5).elim
  · exact fun q hl => (no_some hl n6).elim
  · exact fun q hl => (no_some hl n7).elim
  · exact fun q hl => (no_some hl n8).elim
  · intro _
    rw [List.length_append, hlen]
    exact Nat.lt_succ_self _
theorem n_ar {t b : Nat} {n : Int32} {p : Nat × Pic} (ht : Nat.blt t 5 = true) (hc : (x_pr j).2 k = xi_newarray k1 t b) (hR : RepN h C F C0 nc ns) (hm : C.na t b n = some p) (hk : ∀ h, RepN h p.2 F C0 (nc + 1) (ns + n.toNatClampNeg) → x_W d j k1 lv (rv (some p.1) :: st) h (nc + 1) (ns + n.toNatClampNeg) Z) : x_W d j k lv (.int n :: st) h nc ns Z := by
  obtain ⟨hR, h1, h2⟩ := hR
  unfold Pic.na at hm
  split at hm
  · rename_i hl
    cases hm
    have hlen : h.length = C.nx := hR.2.2.2.1
    have key := hk (h ++ [.inl (t, n.toNatClampNeg, [])]) ⟨hR.mkar (Nat.le_of_ble_eq_true ht) hl.2.2, by show C0.nx + (nc + 1) = C.nx + 1; omega, by show C0.sl + (ns + n.toNatClampNeg) = C.sl + n.toNatClampNeg; omega⟩
    refine q_1 ?_ key
    rw [hc]
    unfold xi_newarray
    dsimp only
    rw [hlen, if_pos hl]
    rfl
  · cases hm
theorem Rep.arr {t a : Nat} {l : List Int32} (hR : Rep h C F) (hl : C.ar t a = some l) (ht : a < xT) : C.kd a = 10 + t ∧ ∃ A, h[a]? = some (.inl (t, l.length, A)) ∧ byOf l.length A = l := by
  rcases (hR.1 a).2.1 t l hl with q | q
  · omega
  · exact ⟨q.1, q.2.2⟩
theorem Rep.sarr {t a i : Nat} {l : List Int32} {A : List (Nat × Value)} {x : Int32} (hR : Rep h C F) (hl : C.ar t a = some l) (hk : C.kd a = 10 + t) (ht : t < 5) (hz : h[a]? = some (.inl (t, l.length, A))) (hA : byOf l.length A = l) : Rep (h.set a (.inl (t, l.length, (i, .int x) :: A))) (C.sar (xup2 C.ar t a (l.set i x))) F := by
  have h1 := hR.1 a
  have ha : a < h.length := (List.getElem?_eq_some_iff.mp hz).1
  obtain ⟨n1, n2, n3, n4, n5, n6, n7, n8⟩ := h1.only hR.2.2.2.2 hk (by omega)
  refine hR.chg (a := a) (by omega) rfl rfl (fun b hb => ⟨fun _ => rfl, fun i => xup2_ne hb, rfl, rfl, rfl, rfl, rfl, rfl⟩) (fun b hb => by omega) ⟨?_, ?_, ?_, ?_, ?_, ?_, ?_, ?_, ?_⟩
  · exact fun i r hl => (no_some hl (n1 (by omega) i)).elim
  · intro t' l' hl'
    rcases xup2_eq hl' with ⟨rfl, rfl⟩ | ⟨hne, hr''⟩
    · refine Or.inr ⟨hk, ht, (i, .int x) :: A, ?_, ?_⟩
      · rw [List.getElem?_set_self ha, List.length_set]
      · rw [List.length_set, byOf_set, hA]
    · exact (no_some hr'' (n2 t' (by omega))).elim
  · exact fun q hl => (no_some hl (n3 (by omega))).elim
  · exact fun q hl => (no_some hl (n4 (by omega))).elim
  · exact fun q hl => (no_some hl (n5 (by omega))).elim
  · exact fun q hl => (no_some hl (n6 (by omega))).elim
  · exact fun q hl => (no_some hl (n7 (by omega))).elim
  · exact fun q hl => (no_some hl (n8 (by omega))).elim
  · intro _
    rw [List.length_set]
    exact ha
/-- a store of a number, by what the instruction does -/
theorem s_ar {t : Nat} {i x y : Int32} {C1 : Pic} (ht : Nat.blt t 5 = true) (hi : ∀ (a : Nat) (w : Nat × Nat × List (Nat × Value)), h[a]? = some (.inl w) → w.1 = t → ¬ (i < 0 ∨ w.2.1 ≤ i.toNatClampNeg) → (x_pr j).2 k lv (.int x :: .int i :: .ref a :: st) h nc ns = some (.inl (k1, lv, st, h.set a (.inl (w.1, w.2.1, (i.toNatClampNeg, .int y) :: w.2.2)), nc, ns))) (hR : RepN h C F C0 nc ns) (hm : C.sa t o i y = some C1) (hk : ∀ h, RepN h C1 F C0 nc ns → x_W d j k1 lv st h nc ns Z) : x_W d j k lv (.int x :: .int i :: rv o :: st) h nc ns Z := by
  unfold Pic.sa at hm
  obtain ⟨a, ho, hm1⟩ := ob hm
  obtain ⟨l, hl, hm2⟩ := ob hm1
  subst ho
  obtain ⟨hR, h1, h2⟩ := hR
  split at hm2
  · cases hm2
  · rename_i hz
    cases hm2
    obtain ⟨q1, A, q2, q3⟩ := hR.arr hl (by omega)
    exact q_1 (hi a _ q2 rfl (fun q => hz (by rcases q with q | q; exact Or.inl q; exact Or.inr (Or.inl q)))) (hk _ ⟨hR.sarr (i := i.toNatClampNeg) (x := y) hl q1 (Nat.le_of_ble_eq_true ht) q2 q3, h1, h2⟩)
theorem s_by {i x : Int32} {C1 : Pic} (hc : (x_pr j).2 k = xi_bast k1 0) (hR : RepN h C F C0 nc ns) (hm : C.sa 0 o i x.toInt8.toInt32 = some C1) (hk : ∀ h, RepN h C1 F C0 nc ns → x_W d j k1 lv st h nc ns Z) : x_W d j k lv (.int x :: .int i :: rv o :: st) h nc ns Z :=
  s_ar rfl (fun a w hz ht hi => by rw [hc]; unfold xi_bast; dsimp only; rw [hz]; dsimp only; rw [if_pos ⟨ht, hi⟩]) hR hm hk
theorem s_it {i x : Int32} {C1 : Pic} (hc : (x_pr j).2 k = xi_iast k1 1) (hR : RepN h C F C0 nc ns) (hm : C.sa 1 o i x = some C1) (hk : ∀ h, RepN h C1 F C0 nc ns → x_W d j k1 lv st h nc ns Z) : x_W d j k lv (.int x :: .int i :: rv o :: st) h nc ns Z :=
  s_ar rfl (fun a w hz ht hi => by rw [hc]; unfold xi_iast; dsimp only; rw [hz]; dsimp only; rw [if_pos ⟨ht, hi⟩]) hR hm hk
theorem s_ch {i x : Int32} {C1 : Pic} (hc : (x_pr j).2 k = xi_cast k1 2) (hR : RepN h C F C0 nc ns) (hm : C.sa 2 o i x.toUInt32.toUInt16.toUInt32.toInt32 = some C1) (hk : ∀ h, RepN h C1 F C0 nc ns → x_W d j k1 lv st h nc ns Z) : x_W d j k lv (.int x :: .int i :: rv o :: st) h nc ns Z :=
  s_ar rfl (fun a w hz ht hi => by rw [hc]; unfold xi_cast; dsimp only; rw [hz]; dsimp only; rw [if_pos ⟨ht, hi⟩]) hR hm hk
theorem s_bo {i x : Int32} {C1 : Pic} (hc : (x_pr j).2 k = xi_zast k1 3) (hR : RepN h C F C0 nc ns) (hm : C.sa 3 o i (x &&& 1) = some C1) (hk : ∀ h, RepN h C1 F C0 nc ns → x_W d j k1 lv st h nc ns Z) : x_W d j k lv (.int x :: .int i :: rv o :: st) h nc ns Z :=
  s_ar rfl (fun a w hz ht hi => by rw [hc]; unfold xi_zast; dsimp only; rw [hz]; dsimp only; rw [if_pos ⟨ht, hi⟩]) hR hm hk
/-- loads of numbers from arrays of one's own -/
theorem g_ar {t : Nat} {i x : Int32} (hi : ∀ (a : Nat) (w : Nat × Nat × List (Nat × Value)), h[a]? = some (.inl w) → w.1 = t → ¬ (i < 0 ∨ w.2.1 ≤ i.toNatClampNeg) → (x_pr j).2 k lv (.int i :: .ref a :: st) h nc ns = some (.inl (k1, lv, .int (x_int w.2.2 i.toNatClampNeg) :: st, h, nc, ns))) (hx : t = 0 → ∀ a l, xT ≤ a → x_xb a = some l → ¬ (i < 0 ∨ l.length ≤ i.toNatClampNeg) → (x_pr j).2 k lv (.int i :: .ref a :: st) h nc ns = some (.inl (k1, lv, .int (l.getD i.toNatClampNeg 0) :: st, h, nc, ns))) (hR : RepN h C F C0 nc ns) (hm : C.ga t o i = some x) (hr : x_W d j k1 lv (.int x :: st) h nc ns Z) : x_W d j k lv (.int i :: rv o :: st) h nc ns Z := by
  unfold Pic.ga at hm
  obtain ⟨l, hl0, hm2⟩ := ob hm
  obtain ⟨a, ho, hl⟩ := ob hl0
  subst ho
  split at hm2
  · cases hm2
  · rename_i hz
    rcases (hR.1.1 a).2.1 t l hl with ⟨q0, q1, q2⟩ | ⟨q1, q2, A, q3, q4⟩
    · refine q_1 (hx q0 a l q1 q2 hz) ?_
      rw [List.getD_eq_getElem?_getD, hm2]
      exact hr
    · refine q_1 (hi a _ q3 rfl hz) ?_
      rw [← q4, byOf_get (by omega)] at hm2
      cases hm2
      exact hr
theorem g_it {i x : Int32} (hc : (x_pr j).2 k = xi_iald k1 1) (hR : RepN h C F C0 nc ns) (hm : C.ga 1 o i = some x) (hr : x_W d j k1 lv (.int x :: st) h nc ns Z) : x_W d j k lv (.int i :: rv o :: st) h nc ns Z :=
  g_ar (fun a w hz ht hi => by rw [hc]; unfold xi_iald; dsimp only; rw [hz]; dsimp only; rw [if_pos ⟨ht, hi⟩]) (fun e => by cases e) hR hm hr
theorem g_bo {i x : Int32} (hc : (x_pr j).2 k = xi_zald k1 3) (hR : RepN h C F C0 nc ns) (hm : C.ga 3 o i = some x) (hr : x_W d j k1 lv (.int x :: st) h nc ns Z) : x_W d j k lv (.int i :: rv o :: st) h nc ns Z :=
  g_ar (fun a w hz ht hi => by rw [hc]; unfold xi_zald; dsimp only; rw [hz]; dsimp only; rw [if_pos ⟨ht, hi⟩]) (fun e => by cases e) hR hm hr
theorem g_by {i x : Int32} (hc : (x_pr j).2 k = xi_or (xi_bald k1 0) (xi_xb k1 x_xb)) (hR : RepN h C F C0 nc ns) (hm : C.ga 0 o i = some x) (hr : x_W d j k1 lv (.int x :: st) h nc ns Z) : x_W d j k lv (.int i :: rv o :: st) h nc ns Z :=
  g_ar (fun a w hz ht hi => by rw [hc]; unfold xi_or xi_bald; dsimp only; rw [hz]; dsimp only; rw [if_pos ⟨ht, hi⟩]) (fun _ a l ha hx hi => by
    have hz : h[a]? = none := List.getElem?_eq_none (Nat.le_trans hR.1.2.2.2.2 ha)
    rw [hc]; unfold xi_or xi_bald; dsimp only; rw [hz]; unfold xi_xb; dsimp only; rw [hx]; dsimp only; rw [if_pos hi]) hR hm hr
theorem l_ar {t n : Nat} (hi : ∀ (a : Nat) (w : Nat × Nat × List (Nat × Value)), h[a]? = some (.inl w) → w.1 = t → (x_pr j).2 k lv (.ref a :: st) h nc ns = some (.inl (k1, lv, .int (Int32.ofNat w.2.1) :: st, h, nc, ns))) (hx : t = 0 → ∀ a l, xT ≤ a → x_xb a = some l → (x_pr j).2 k lv (.ref a :: st) h nc ns = some (.inl (k1, lv, .int (Int32.ofNat l.length) :: st, h, nc, ns))) (hR : RepN h C F C0 nc ns) (hm : C.la t o = some n) (hr : x_W d j k1 lv (.int (Int32.ofNat n) :: st) h nc ns Z) : x_W d j k lv (rv o :: st) h nc ns Z := by
  unfold Pic.la at hm
  obtain ⟨l, hl0, hn⟩ := Option.map_eq_some_iff.mp hm
  obtain ⟨a, ho, hl⟩ := ob hl0
  subst ho
  subst hn
  rcases (hR.1.1 a).2.1 t l hl with ⟨q0, q1, q2⟩ | ⟨q1, q2, A, q3, q4⟩
  · exact q_1 (hx q0 a l q1 q2) hr
  · exact q_1 (hi a _ q3 rfl) hr
theorem l_no {t n : Nat} (ht : Nat.blt 0 t = true) (hc : (x_pr j).2 k = xi_alen k1 t) (hR : RepN h C F C0 nc ns) (hm : C.la t o = some n) (hr : x_W d j k1 lv (.int (Int32.ofNat n) :: st) h nc ns Z) : x_W d j k lv (rv o :: st) h nc ns Z :=
  l_ar (fun a w hz ht => by rw [hc]; unfold xi_alen; dsimp only; rw [hz]; dsimp only; rw [if_pos ht]) (fun e => by rw [e] at ht; cases ht) hR hm hr
theorem l_by {n : Nat} (hc : (x_pr j).2 k = xi_or (xi_alen k1 0) (xi_xlen k1 x_xb)) (hR : RepN h C F C0 nc ns) (hm : C.la 0 o = some n) (hr : x_W d j k1 lv (.int (Int32.ofNat n) :: st) h nc ns Z) : x_W d j k lv (rv o :: st) h nc ns Z :=
  l_ar (fun a w hz ht => by rw [hc]; unfold xi_or xi_alen; dsimp only; rw [hz]; dsimp only; rw [if_pos ht]) (fun _ a l ha hx => by
    have hz : h[a]? = none := List.getElem?_eq_none (Nat.le_trans hR.1.2.2.2.2 ha)
    rw [hc]; unfold xi_or xi_alen; dsimp only; rw [hz]; unfold xi_xlen; dsimp only; rw [hx]) hR hm hr
/-! arrays of references -/
def Pic.lr (C : Pic) (t : Nat) (o : Option Nat) : Option Nat := (o.bind C.rf).bind fun q => if q.1 = t then some q.2.length else none
def Pic.gr (C : Pic) (t : Nat) (o : Option Nat) (i : Int32) : Option (Option Nat) := (o.bind C.rf).bind fun q => if q.1 = t ∧ ¬ (i < 0 ∨ q.2.length ≤ i.toNatClampNeg) then q.2[i.toNatClampNeg]? else none
def Pic.sr (C : Pic) (t : Nat) (o : Option Nat) (i : Int32) (x : Option Nat) : Option Pic := o.bind fun a => (C.rf a).bind fun q => if q.1 = t ∧ ¬ (i < 0 ∨ q.2.length ≤ i.toNatClampNeg) then some (C.srf (xup C.rf a (t, q.2.set i.toNatClampNeg x))) else none
def Pic.nr (C : Pic) (t : Nat) (n : Int32) : Option (Nat × Pic) := if ¬ n < 0 ∧ n.toNatClampNeg * 4 ≤ 536870912 ∧ C.nx < xT then some (C.nx, (C.srf (xup C.rf C.nx (t, List.replicate n.toNatClampNeg none))).mk (C.nx + 1) (C.sl + n.toNatClampNeg) (xupK C.kd C.nx 15)) else none
theorem Rep.mkrf {t n m : Nat} (hR : Rep h C F) (hl : C.nx < xT) : Rep (h ++ [.inl (t, n, [])]) ((C.srf (xup C.rf C.nx (t, List.replicate n none))).mk (C.nx + 1) (C.sl + m) (xupK C.kd C.nx 15)) F := by
  have h0 : C.kd C.nx = 0 := by
    cases e : C.kd C.nx with
    | zero => rfl
    | succ m => exact absurd ((hR.1 C.nx).2.2.2.2.2.2.2.2 (by omega)) (by have := hR.2.2.2.1; omega)
  obtain ⟨n1, n2, n3, n4, n5, n6, n7, n8⟩ := (hR.1 C.nx).none h0 hl
  have hlen := hR.2.2.2.1
  refine hR.new 15 0 hl rfl rfl (fun b hb => ⟨fun _ => rfl, fun _ => rfl, xup_ne hb, rfl, rfl, rfl, rfl, rfl⟩) ⟨?_, ?_, ?_, ?_, ?_, ?_, ?_, ?_, ?_⟩
  · exact fun t l hl => (no_some hl (n1 t)).elim
  · exact fun t l hl => (no_some hl (n2 t)).elim
  · intro q hq
    have hq' : xup C.rf C.nx (t, List.replicate n none) C.nx = some q := hq
    rw [xup_eq] at hq'
    cases hq'
    refine ⟨xupK_eq, [], ?_, ?_⟩
    · rw [← hlen]
      simp
    · dsimp only
      rw [List.length_replicate]
      exact rfOf_nil
  · exact fun q hl => (no_some hl n4).elim
  · exact fun q hl => (no_some hl n5).elim
  · exact fun q hl => (no_some hl n6).elim
  · exact fun q hl => (no_some hl n7).elim
  · exact fun q hl => (no_some hl n8).elim
  · intro _
    rw [List.length_append, hlen]
    exact Nat.lt_succ_self _
theorem n_rf {t : Nat} {n : Int32} {p : Nat × Pic} (hc : (x_pr j).2 k = xi_anewarray k1 t) (hR : RepN h C F C0 nc ns) (hm : C.nr t n = some p) (hk : ∀ h, RepN h p.2 F C0 (nc + 1) (ns + n.toNatClampNeg) → x_W d j k1 lv (rv (some p.1) :: st) h (nc + 1) (ns + n.toNatClampNeg) Z) : x_W d j k lv (.int n :: st) h nc ns Z := by
  obtain ⟨hR, h1, h2⟩ := hR
  unfold Pic.nr at hm
  split at hm
  · rename_i hl
    cases hm
    have hlen : h.length = C.nx := hR.2.2.2.1
    have key := hk (h ++ [.inl (t, n.toNatClampNeg, [])]) ⟨hR.mkrf hl.2.2, by show C0.nx + (nc + 1) = C.nx + 1; omega, by show C0.sl + (ns + n.toNatClampNeg) = C.sl + n.toNatClampNeg; omega⟩
    refine q_1 ?_ key
    rw [hc]
    unfold xi_anewarray
    dsimp only
    rw [hlen, if_pos hl]
    rfl
  · cases hm
theorem l_rf {t n : Nat} (hc : (x_pr j).2 k = xi_alen k1 t) (hR : RepN h C F C0 nc ns) (hm : C.lr t o = some n) (hr : x_W d j k1 lv (.int (Int32.ofNat n) :: st) h nc ns Z) : x_W d j k lv (rv o :: st) h nc ns Z := by
  unfold Pic.lr at hm
  obtain ⟨q, hl0, hm2⟩ := ob hm
  obtain ⟨a, ho, hl⟩ := ob hl0
  subst ho
  obtain ⟨-, A, hz, -⟩ := (hR.1.1 a).2.2.1 q hl
  split at hm2
  · rename_i ht
    cases hm2
    refine q_1 ?_ hr
    rw [hc]
    unfold xi_alen
    dsimp only [rv]
    rw [hz]
    dsimp only
    rw [if_pos ht]
  · cases hm2
theorem g_rf {t : Nat} {i : Int32} {x : Option Nat} (hc : (x_pr j).2 k = xi_aald k1 t) (hR : RepN h C F C0 nc ns) (hm : C.gr t o i = some x) (hr : x_W d j k1 lv (rv x :: st) h nc ns Z) : x_W d j k lv (.int i :: rv o :: st) h nc ns Z := by
  unfold Pic.gr at hm
  obtain ⟨q, hl0, hm2⟩ := ob hm
  obtain ⟨a, ho, hl⟩ := ob hl0
  subst ho
  obtain ⟨-, A, hz, hA⟩ := (hR.1.1 a).2.2.1 q hl
  split at hm2
  · rename_i ht
    obtain ⟨o1, q1, q2⟩ := rfOf_get (A := A) (n := q.2.length) (i := i.toNatClampNeg) (by omega)
    rw [hA, hm2] at q1
    cases q1
    refine q_1 ?_ hr
    rw [hc]
    unfold xi_aald
    dsimp only [rv]
    rw [hz]
    dsimp only
    rw [if_pos ht, q2]
    rfl
  · cases hm2
theorem Rep.srfl {t a i : Nat} {l : List (Option Nat)} {A : List (Nat × Value)} {x : Option Nat} (hR : Rep h C F) (hl : C.rf a = some (t, l)) (hz : h[a]? = some (.inl (t, l.length, A))) (hA : rfOf l.length A = l) : Rep (h.set a (.inl (t, l.length, (i, rv x) :: A))) (C.srf (xup C.rf a (t, l.set i x))) F := by
  have h1 := hR.1 a
  have ha : a < h.length := (List.getElem?_eq_some_iff.mp hz).1
  have hk := (h1.2.2.1 _ hl).1
  obtain ⟨n1, n2, n3, n4, n5, n6, n7, n8⟩ := h1.only hR.2.2.2.2 hk (by omega)
  refine hR.chg (a := a) (by omega) rfl rfl (fun b hb => ⟨fun _ => rfl, fun _ => rfl, xup_ne hb, rfl, rfl, rfl, rfl, rfl⟩) (fun b hb => by omega) ⟨?_, ?_, ?_, ?_, ?_, ?_, ?_, ?_, ?_⟩
  · exact fun i r hl => (no_some hl (n1 (by omega) i)).elim
  · intro t' l' hl'
    by_cases e : t' = 5
    · subst e
      rcases h1.2.1 5 l' hl' with q | q
      · omega
      · omega
    · exact (no_some hl' (n2 t' (by omega))).elim
  · intro q hq
    have hq' : xup C.rf a (t, l.set i x) a = some q := hq
    rw [xup_eq] at hq'
    cases hq'
    refine ⟨hk, (i, rv x) :: A, ?_, ?_⟩
    · rw [List.getElem?_set_self ha, List.length_set]
    · dsimp only
      rw [List.length_set, rfOf_set, hA]
  · exact fun q hl => (no_some hl (n4 (by omega))).elim
  · exact fun q hl => (no_some hl (n5 (by omega))).elim
  · exact fun q hl => (no_some hl (n6 (by omega))).elim
  · exact fun q hl => (no_some hl (n7 (by omega))).elim
  · exact fun q hl => (no_some hl (n8 (by omega))).elim
  · intro _
    rw [List.length_set]
    exact ha
theorem s_rf {t : Nat} {i : Int32} {x : Option Nat} {cs : List Nat} {C1 : Pic} (hc : (x_pr j).2 k = xi_aast k1 t cs) (hR : RepN h C F C0 nc ns) (hx : x = none ∨ ∃ ci fs, x_pt h x (.inr (ci, fs)) ∧ ci ∈ cs) (hm : C.sr t o i x = some C1) (hk : ∀ h, RepN h C1 F C0 nc ns → x_W d j k1 lv st h nc ns Z) : x_W d j k lv (rv x :: .int i :: rv o :: st) h nc ns Z := by
  unfold Pic.sr at hm
  obtain ⟨a, ho, hm1⟩ := ob hm
  obtain ⟨⟨t1, l⟩, hl, hm2⟩ := ob hm1
  subst ho
  obtain ⟨-, A, hz, hA⟩ := (hR.1.1 a).2.2.1 _ hl
  obtain ⟨hR, h1, h2⟩ := hR
  dsimp only at hm2 hz hA
  split at hm2
  · rename_i ht
    obtain ⟨ht, hi⟩ := ht
    subst ht
    cases hm2
    have key := hk _ ⟨hR.srfl (i := i.toNatClampNeg) (x := x) hl hz hA, h1, h2⟩
    refine q_1 ?_ key
    rw [hc]
    unfold xi_aast
    rcases hx with rfl | ⟨ci, fs, ⟨b, rfl, hb⟩, hmem⟩
    · dsimp only [rv]
      rw [hz]
      dsimp only
      rw [if_pos ⟨rfl, hi⟩]
    · dsimp only [rv]
      rw [hz, hb]
      dsimp only
      rw [if_pos ⟨rfl, hi, hmem⟩]
  · cases hm2
/-! bare objects of the library -/
def Pic.nb (C : Pic) (ci n : Nat) : Option (Nat × Pic) := if C.nx < xT then some (C.nx, (C.sot (xup C.ot C.nx ci)).mk (C.nx + 1) (C.sl + n) (xupK C.kd C.nx 6)) else none
theorem Rep.mkot {ci n : Nat} (hR : Rep h C F) (hl : C.nx < xT) : Rep (h ++ [.inr (ci, x_rawD ci)]) ((C.sot (xup C.ot C.nx ci)).mk (C.nx + 1) (C.sl + n) (xupK C.kd C.nx 6)) F := by
  have h0 : C.kd C.nx = 0 := by
    cases e : C.kd C.nx with
    | zero => rfl
    | succ m => exact absurd ((hR.1 C.nx).2.2.2.2.2.2.2.2 (by omega)) (by have := hR.2.2.2.1; omega)
  obtain ⟨n1, n2, n3, n4, n5, n6, n7, n8⟩ := (hR.1 C.nx).none h0 hl
  have hlen := hR.2.2.2.1
  refine hR.new 6 0 hl rfl rfl (fun b hb => ⟨fun _ => rfl, fun _ => rfl, rfl, rfl, rfl, rfl, rfl, xup_ne hb⟩) ⟨?_, ?_, ?_, ?_, ?_, ?_, ?_, ?_, ?_⟩
  · exact fun t l hl => (no_some hl (n1 t)).elim
  · exact fun t l hl => (no_some hl (n2 t)).elim
  · exact fun q hl => (no_some hl n3).elim
  · exact fun q hl => (no_some hl n4).elim
  · exact fun q hl => (no_some hl n5).elim
  · exact fun q hl => (no_some hl n6).elim
  · exact fun q hl => (no_some hl n7).elim
  · intro q hq
    have hq' : xup C.ot C.nx ci C.nx = some q := hq
    rw [xup_eq] at hq'
    cases hq'
    refine ⟨xupK_eq, ?_⟩
    rw [← hlen]
    simp
  · intro _
    rw [List.length_append, hlen]
    exact Nat.lt_succ_self _
theorem n_ot {ci n : Nat} {fs : List Value} {p : Nat × Pic} (hc : (x_pr j).2 k = xi_new k1 ci n fs) (hf : fs = x_rawD ci) (hR : RepN h C F C0 nc ns) (hm : C.nb ci n = some p) (hk : ∀ h, RepN h p.2 F C0 (nc + 1) (ns + n) → x_W d j k1 lv (rv (some p.1) :: st) h (nc + 1) (ns + n) Z) : x_W d j k lv st h nc ns Z := by
  subst hf
  obtain ⟨hR, h1, h2⟩ := hR
  unfold Pic.nb at hm
  split at hm
  · rename_i hl
    cases hm
    have hlen : h.length = C.nx := hR.2.2.2.1
    have key := hk (h ++ [.inr (ci, x_rawD ci)]) ⟨hR.mkot hl, by show C0.nx + (nc + 1) = C.nx + 1; omega, by show C0.sl + (ns + n) = C.sl + n; omega⟩
    refine q_1 ?_ key
    rw [hc]
    unfold xi_new
    rw [hlen, if_pos hl]
    rfl
  · cases hm
/-! what the log tells of: exchanges (1), queues (13), bindings (14), messages (16) -/
def Pic.vD (C : Pic) (o : Option Nat) : Option Nat := match C.g 1 o with
  | some _ => some 1
  | none => match C.g 13 o with
    | some _ => some 13
    | none => match C.g 14 o with
      | some _ => some 14
      | none => match C.g 16 o with
        | some _ => some 16
        | none => none
theorem e_dur {c : Nat} (hR : RepN h C F C0 nc ns) (hm : C.vD o = some c) : (∃ r, C.g c o = some r) ∧ (c = 1 ∨ c = 13 ∨ c = 14 ∨ c = 16) := by
  unfold Pic.vD at hm
  split at hm
  · rename_i r hr
    cases hm
    exact ⟨⟨_, hr⟩, Or.inl rfl⟩
  · split at hm
    · rename_i r hr
      cases hm
      exact ⟨⟨_, hr⟩, Or.inr (Or.inl rfl)⟩
    · split at hm
      · rename_i r hr
        cases hm
        exact ⟨⟨_, hr⟩, Or.inr (Or.inr (Or.inl rfl))⟩
      · split at hm
        · rename_i r hr
          cases hm
          exact ⟨⟨_, hr⟩, Or.inr (Or.inr (Or.inr rfl))⟩
        · cases hm
/-- where its mark of being safe stands -/
def x_sf (c : Nat) : Nat := if c = 1 then 7 else if c = 13 then 14 else if c = 14 then 6 else 18
def Pic.gS (C : Pic) (o : Option Nat) : Option Int32 := (C.vD o).bind fun c => (C.g c o).bind fun r => some (r.i (x_sf c))
def Pic.pS (C : Pic) (o : Option Nat) (x : Int32) : Option Pic := (C.vD o).bind fun c => C.p c o fun r => r.si (x_sf c) x
theorem q_gSafe {x : Int32} (hc : (x_pr j).2 k = xi_getfield k1 [(1, 7), (13, 14), (14, 6), (16, 18)]) (hR : RepN h C F C0 nc ns) (hm : C.gS o = some x) (hr : x_W d j k1 lv (.int x :: st) h nc ns Z) : x_W d j k lv (rv o :: st) h nc ns Z := by
  unfold Pic.gS at hm
  obtain ⟨c, h1, h2⟩ := ob hm
  obtain ⟨r, h3, h4⟩ := ob h2
  cases h4
  rcases (e_dur hR h1).2 with rfl | rfl | rfl | rfl <;> exact q_get hc (e_ob hR h3) rfl rfl hr
theorem q_pSafe {x : Int32} {u : Unit} {C1 : Pic} (hc : (x_pr j).2 k = xi_putfield k1 .boolean [(1, 7), (13, 14), (14, 6), (16, 18)]) (hR : RepN h C F C0 nc ns) (hz : gz x = some u) (hm : C.pS o x = some C1) (hk : ∀ h, RepN h C1 F C0 nc ns → x_W d j k1 lv st h nc ns Z) : x_W d j k lv (.int x :: rv o :: st) h nc ns Z := by
  unfold Pic.pS at hm
  obtain ⟨c, h1, h2⟩ := ob hm
  rcases (e_dur hR h1).2 with rfl | rfl | rfl | rfl <;> exact p_ob hc hR h2 rfl (gz_fits hz) (fun _ => Nat.le_of_ble_eq_true rfl) (fun _ => rfl) hk
def Pic.kD (C : Pic) (o : Option Nat) : Option Unit := match o with
  | none => some ()
  | some a => (C.vD (some a)).map fun _ => ()
theorem k_dur {cs : List Nat} {u : Unit} (hR : RepN h C F C0 nc ns) (hr : C.kD o = some u) (h1 : 1 ∈ cs) (h2 : 13 ∈ cs) (h3 : 14 ∈ cs) (h4 : 16 ∈ cs) : o = none ∨ ∃ ci fs, x_pt h o (.inr (ci, fs)) ∧ ci ∈ cs := by
  cases o with
  | none => exact Or.inl rfl
  | some a =>
    unfold Pic.kD at hr
    dsimp only at hr
    cases e : C.vD (some a) with
    | none => rw [e] at hr; cases hr
    | some c =>
      obtain ⟨⟨r, hp⟩, hq⟩ := e_dur hR e
      refine Or.inr ⟨c, _, e_ob hR hp, ?_⟩
      rcases hq with rfl | rfl | rfl | rfl <;> assumption
/-- is it of the kind c? -/
def Pic.iD (C : Pic) (c : Nat) (o : Option Nat) : Option Int32 := match o with
  | none => some 0
  | some a => (C.vD (some a)).bind fun c1 => if c1 = c then some 1 else some 0
theorem q_inst {c : Nat} {x : Int32} {cs ds : List Nat} (hc : (x_pr j).2 k = xi_inst k1 cs ds) (hR : RepN h C F C0 nc ns) (hm : C.iD c o = some x) (h1 : cs = [c]) (h2 : ([1, 13, 14, 16].all fun c1 => c1 == c || ds.contains c1) = true) (hr : x_W d j k1 lv (.int x :: st) h nc ns Z) : x_W d j k lv (rv o :: st) h nc ns Z := by
  cases o with
  | none =>
    cases hm
    refine q_1 ?_ hr
    rw [hc]
    rfl
  | some a =>
    obtain ⟨c1, e, hm2⟩ := ob hm
    obtain ⟨⟨r, hp0⟩, hq⟩ := e_dur hR e
    obtain ⟨a', e1, hp⟩ := e_ob hR hp0
    cases e1
    subst h1
    refine q_1 ?_ hr
    rw [hc]
    unfold xi_inst
    dsimp only [rv]
    rw [hp]
    dsimp only
    by_cases e : c1 = c
    · rw [if_pos e] at hm2
      cases hm2
      rw [if_pos (by simp [e])]
    · rw [if_neg e] at hm2
      cases hm2
      rw [if_neg (by simp [e]), if_pos ?_]
      have h3 := List.all_eq_true.mp h2 c1 (by rcases hq with rfl | rfl | rfl | rfl <;> simp)
      simpa [e] using h3
/-! texts as records, or such as were there before -/
def Pic.sv (C : Pic) (o : Option Nat) : Option (Option Nat) := o.bind fun a => if x_isT a = true then some (some (a + 1000)) else (C.ob 8 a).map fun r => r.r 0
def Pic.sc (C : Pic) (o : Option Nat) : Option Int32 := o.bind fun a => if x_isT a = true then some 0 else (C.ob 8 a).map fun r => r.i 1
def Pic.sk (C : Pic) (o : Option Nat) : Option Unit := o.bind fun a => if x_isT a = true then some () else (C.ob 8 a).map fun _ => ()
def Pic.ss (C : Pic) (o : Option Nat) : Option Int32 := match o with
  | none => some 0
  | some a => if x_isT a = true then some 1 else (C.ob 8 a).map fun _ => 1
def Pic.kc (C : Pic) (o : Option Nat) : Option Unit := match o with
  | none => some ()
  | some a => if x_isT a = true then some () else (C.ob 8 a).map fun _ => ()
theorem x_isT_le {a : Nat} (h : x_isT a = true) : xT ≤ a := by
  have key : ∀ q ∈ x_txl, xT ≤ q.1 := by decide +kernel
  obtain ⟨l, hl⟩ := x_isT_mem h
  exact key _ hl
theorem x_nx {a : Nat} (hR : RepN h C F C0 nc ns) (h1 : xT ≤ a) : h[a]? = none := List.getElem?_eq_none (Nat.le_trans hR.1.2.2.2.2 h1)
theorem q_sv {v : Option Nat} {tab : List (Nat × Nat)} (hc : (x_pr j).2 k = xi_or (xi_getfield k1 tab) (xi_xf k1 x_vf)) (hl : x_look tab 8 = some 0) (hR : RepN h C F C0 nc ns) (hm : C.sv o = some v) (hr : x_W d j k1 lv (rv v :: st) h nc ns Z) : x_W d j k lv (rv o :: st) h nc ns Z := by
  unfold Pic.sv at hm
  obtain ⟨a, ho, hm2⟩ := ob hm
  subst ho
  refine q_1 ?_ hr
  rw [hc]
  unfold xi_or xi_getfield
  dsimp only [rv]
  split at hm2
  · rename_i ht
    cases hm2
    rw [x_nx hR (x_isT_le ht)]
    dsimp only
    unfold xi_xf x_vf
    dsimp only
    rw [if_pos ht]
  · obtain ⟨r, hr1, hr2⟩ := Option.map_eq_some_iff.mp hm2
    rw [((hR.1.1 a).1 8 r hr1).2]
    dsimp only
    rw [hl]
    subst hr2
    rfl
theorem q_sc {v : Int32} {tab : List (Nat × Nat)} (hc : (x_pr j).2 k = xi_or (xi_getfield k1 tab) (xi_xf k1 x_cf)) (hl : x_look tab 8 = some 1) (hR : RepN h C F C0 nc ns) (hm : C.sc o = some v) (hr : x_W d j k1 lv (.int v :: st) h nc ns Z) : x_W d j k lv (rv o :: st) h nc ns Z := by
  unfold Pic.sc at hm
  obtain ⟨a, ho, hm2⟩ := ob hm
  subst ho
  refine q_1 ?_ hr
  rw [hc]
  unfold xi_or xi_getfield
  dsimp only [rv]
  split at hm2
  · rename_i ht
    cases hm2
    rw [x_nx hR (x_isT_le ht)]
    dsimp only
    unfold xi_xf x_cf
    dsimp only
    rw [if_pos ht]
  · obtain ⟨r, hr1, hr2⟩ := Option.map_eq_some_iff.mp hm2
    rw [((hR.1.1 a).1 8 r hr1).2]
    dsimp only
    rw [hl]
    subst hr2
    rfl
theorem q_ss {x : Int32} {cs ds : List Nat} (hc : (x_pr j).2 k = xi_or (xi_inst k1 cs ds) (xi_xinst k1 x_isT)) (h8 : 8 ∈ cs) (hR : RepN h C F C0 nc ns) (hm : C.ss o = some x) (hr : x_W d j k1 lv (.int x :: st) h nc ns Z) : x_W d j k lv (rv o :: st) h nc ns Z := by
  refine q_1 ?_ hr
  rw [hc]
  unfold xi_or xi_inst
  cases o with
  | none => cases hm; rfl
  | some a =>
    unfold Pic.ss at hm
    dsimp only [rv] at hm ⊢
    split at hm
    · rename_i ht
      cases hm
      rw [x_nx hR (x_isT_le ht)]
      dsimp only
      unfold xi_xinst
      dsimp only
      rw [if_pos ht]
    · obtain ⟨r, hr1, hr2⟩ := Option.map_eq_some_iff.mp hm
      rw [((hR.1.1 a).1 8 r hr1).2]
      dsimp only
      rw [if_pos h8]
      subst hr2
      rfl
theorem q_kc {u : Unit} {cs : List Nat} (hc : (x_pr j).2 k = xi_or (xi_checkcast k1 cs) (xi_xcast k1 x_isT)) (h8 : 8 ∈ cs) (hR : RepN h C F C0 nc ns) (hm : C.kc o = some u) (hr : x_W d j k1 lv (rv o :: st) h nc ns Z) : x_W d j k lv (rv o :: st) h nc ns Z := by
  refine q_1 ?_ hr
  rw [hc]
  unfold xi_or xi_checkcast
  cases o with
  | none => rfl
  | some a =>
    unfold Pic.kc at hm
    dsimp only [rv] at hm ⊢
    split at hm
    · rename_i ht
      rw [x_nx hR (x_isT_le ht)]
      dsimp only
      unfold xi_xcast
      dsimp only
      rw [if_pos ht]
    · obtain ⟨r, hr1, hr2⟩ := Option.map_eq_some_iff.mp hm
      rw [((hR.1.1 a).1 8 r hr1).2]
      dsimp only
      rw [if_pos h8]
/-- a call on a text -/
theorem q_cx {j' n : Nat} {tab : List (Nat × Nat)} {rr : List Value} (hc : (x_pr j).2 k = xi_or (xi_callV k1 n tab) (xi_xcall k1 n j' x_isT)) (hst : st.drop n = rv o :: rr) (hz : (∃ a, o = some a ∧ xT ≤ a ∧ x_isT a = true) ∨ ∃ fs, x_pt h o (.inr (8, fs))) (hR : h.length ≤ xT) (hl : x_look tab 8 = some j') (hs : (rr.map fun v => v.category).sum ≤ 8) (hf : x_fit (rv o :: (st.take n).reverse) (x_pr j').1.2.2.1 = true) (hr : x_W d j' 0 (lv_args 0 (rv o :: (st.take n).reverse)) [] h 0 0 (fun v h1 mc ms => x_W (d + 1) j k1 lv (v.toList ++ rr) h1 (nc + mc) (ns + ms) Z)) : x_W (d + 1) j k lv st h nc ns Z := by
  refine q_c ?_ hf hr
  rw [hc]
  unfold xi_or xi_callV
  rw [hst]
  rcases hz with ⟨a, rfl, ha, ht⟩ | ⟨fs, a, rfl, hz⟩
  · dsimp only [rv]
    rw [List.getElem?_eq_none (Nat.le_trans hR ha)]
    dsimp only
    unfold xi_xcall
    rw [hst]
    dsimp only [rv]
    rw [if_pos ⟨ht, hs⟩]
  · dsimp only [rv]
    rw [hz]
    dsimp only
    rw [hl]
    dsimp only
    rw [if_pos hs]
theorem e_sk {u : Unit} (hR : RepN h C F C0 nc ns) (hm : C.sk o = some u) : (∃ a, o = some a ∧ xT ≤ a ∧ x_isT a = true) ∨ ∃ fs, x_pt h o (.inr (8, fs)) := by
  unfold Pic.sk at hm
  obtain ⟨a, ho, hm2⟩ := ob hm
  split at hm2
  · rename_i ht
    exact Or.inl ⟨a, ho, x_isT_le ht, ht⟩
  · obtain ⟨r, hr1, hr2⟩ := Option.map_eq_some_iff.mp hm2
    exact Or.inr ⟨_, a, ho, ((hR.1.1 a).1 8 r hr1).2⟩
theorem c_cxr {j' n : Nat} {tab : List (Nat × Nat)} {rr : List Value} (hc : (x_pr j).2 k = xi_or (xi_callV k1 n tab) (xi_xcall k1 n j' x_isT)) (hst : st.drop n = rv o :: rr) (hz : (∃ a, o = some a ∧ xT ≤ a ∧ x_isT a = true) ∨ ∃ fs, x_pt h o (.inr (8, fs))) (hl : x_look tab 8 = some j') (hs : (rr.map fun v => v.category).sum ≤ 8) (hf : x_fit (rv o :: (st.take n).reverse) (x_pr j').1.2.2.1 = true) {w : Value} {C1 : Pic} (hw : x_W d j' 0 (lv_args 0 (rv o :: (st.take n).reverse)) [] h 0 0 (Qp (some w) C1 F C)) (hR : RepN h C F C0 nc ns) (hk : ∀ h nc ns, RepN h C1 F C0 nc ns → x_W (d + 1) j k1 lv (w :: rr) h nc ns Z) : x_W (d + 1) j k lv st h nc ns Z := by
  refine q_cx hc hst hz hR.1.2.2.2.2 hl hs hf (q_m hw ?_)
  rintro v h1 mc ms ⟨rfl, h2⟩
  exact hk _ _ _ (hR.tr h2)
theorem c_cxv {j' n : Nat} {tab : List (Nat × Nat)} {rr : List Value} (hc : (x_pr j).2 k = xi_or (xi_callV k1 n tab) (xi_xcall k1 n j' x_isT)) (hst : st.drop n = rv o :: rr) (hz : (∃ a, o = some a ∧ xT ≤ a ∧ x_isT a = true) ∨ ∃ fs, x_pt h o (.inr (8, fs))) (hl : x_look tab 8 = some j') (hs : (rr.map fun v => v.category).sum ≤ 8) (hf : x_fit (rv o :: (st.take n).reverse) (x_pr j').1.2.2.1 = true) {C1 : Pic} (hw : x_W d j' 0 (lv_args 0 (rv o :: (st.take n).reverse)) [] h 0 0 (Qp none C1 F C)) (hR : RepN h C F C0 nc ns) (hk : ∀ h nc ns, RepN h C1 F C0 nc ns → x_W (d + 1) j k1 lv rr h nc ns Z) : x_W (d + 1) j k lv st h nc ns Z := by
  refine q_cx hc hst hz hR.1.2.2.2.2 hl hs hf (q_m hw ?_)
  rintro v h1 mc ms ⟨rfl, h2⟩
  exact hk _ _ _ (hR.tr h2)
/-- the length of a list's array, or of the one that all new lists share -/
def Pic.lo (C : Pic) (o : Option Nat) : Option Nat := o.bind fun a => if a = 1000000000 then some 0 else (C.rf a).bind fun q => if q.1 = 8 then some q.2.length else none
theorem l_lo {n : Nat} (hc : (x_pr j).2 k = xi_or (xi_alen k1 8) (xi_xlen k1 x_xo)) (hR : RepN h C F C0 nc ns) (hm : C.lo o = some n) (hr : x_W d j k1 lv (.int (Int32.ofNat n) :: st) h nc ns Z) : x_W d j k lv (rv o :: st) h nc ns Z := by
  unfold Pic.lo at hm
  obtain ⟨a, ho, hm2⟩ := ob hm
  subst ho
  refine q_1 ?_ hr
  rw [hc]
  unfold xi_or xi_alen
  dsimp only [rv]
  split at hm2
  · rename_i e
    subst e
    cases hm2
    rw [x_nx hR (by decide)]
    rfl
  · obtain ⟨q, hq, hm3⟩ := ob hm2
    obtain ⟨-, A, hz, -⟩ := (hR.1.1 a).2.2.1 q hq
    split at hm3
    · rename_i e
      cases hm3
      rw [hz]
      dsimp only
      rw [if_pos e]
    · cases hm3
theorem g_ch {i x : Int32} (hc : (x_pr j).2 k = xi_cald k1 2) (hR : RepN h C F C0 nc ns) (hm : C.ga 2 o i = some x) (hr : x_W d j k1 lv (.int x :: st) h nc ns Z) : x_W d j k lv (.int i :: rv o :: st) h nc ns Z :=
  g_ar (fun a w hz ht hi => by rw [hc]; unfold xi_cald; dsimp only; rw [hz]; dsimp only; rw [if_pos ⟨ht, hi⟩]) (fun e => by cases e) hR hm hr
/-! the greeting's array -/
theorem q_gl (hc : (x_pr j).2 k = xi_or (xi_alen k1 1) (xi_xlen k1 x_xi)) (hR : RepN h C F C0 nc ns) (hr : x_W d j k1 lv (.int (Int32.ofNat 8) :: st) h nc ns Z) : x_W d j k lv (rv (some 1000000200) :: st) h nc ns Z := by
  refine q_1 ?_ hr
  rw [hc]
  unfold xi_or xi_alen
  dsimp only [rv]
  rw [x_nx hR (by decide)]
  rfl
def x_gr (i : Int32) : Option Int32 := if i < 0 ∨ 8 ≤ i.toNatClampNeg then none else some (([82, 76, 65, 89, 0, 0, 9, 1] : List Int32).getD i.toNatClampNeg 0)
theorem q_gi {i x : Int32} (hc : (x_pr j).2 k = xi_or (xi_iald k1 1) (xi_xi k1 x_xi)) (hR : RepN h C F C0 nc ns) (hm : x_gr i = some x) (hr : x_W d j k1 lv (.int x :: st) h nc ns Z) : x_W d j k lv (.int i :: rv (some 1000000200) :: st) h nc ns Z := by
  refine q_1 ?_ hr
  rw [hc]
  unfold x_gr at hm
  split at hm
  · cases hm
  · rename_i hi
    cases hm
    unfold xi_or xi_iald
    dsimp only [rv]
    rw [x_nx hR (by decide)]
    unfold xi_xi xi_xb
    dsimp only
    rw [show x_xi 1000000200 = some [82, 76, 65, 89, 0, 0, 9, 1] from rfl]
    dsimp only
    exact if_pos hi
/-! the library's objects -/
def Pic.gal (C : Pic) (o : Option Nat) : Option (Nat × List (Option Nat)) := o.bind C.al
def Pic.gst (C : Pic) (o : Option Nat) : Option (List Int32) := o.bind C.st
def Pic.gsb (C : Pic) (o : Option Nat) : Option (Nat × List Int32) := o.bind C.sb
def Pic.gig (C : Pic) (o : Option Nat) : Option Int32 := o.bind C.ig
theorem e_gst {l : List Int32} (hR : RepN h C F C0 nc ns) (hr : C.gst o = some l) : (∃ a, o = some a ∧ xT ≤ a ∧ x_isT a = true) ∨ ∃ fs, x_pt h o (.inr (8, fs)) := by
  cases o with
  | none => cases hr
  | some a =>
    rcases (hR.1.1 a).2.2.2.2.1 l hr with ⟨h1, h2⟩ | ⟨h1, v, h2, h3⟩
    · exact Or.inl ⟨a, rfl, h1, by unfold x_isT; rw [h2]; rfl⟩
    · exact Or.inr ⟨_, a, rfl, h2⟩
theorem e_gsb {q : Nat × List Int32} (hR : RepN h C F C0 nc ns) (hr : C.gsb o = some q) : ∃ fs, x_pt h o (.inr (5, fs)) := by
  cases o with
  | none => cases hr
  | some a =>
    obtain ⟨-, -, v, m, A, h1, -⟩ := (hR.1.1 a).2.2.2.2.2.1 q hr
    exact ⟨_, a, rfl, h1⟩
theorem e_gal {q : Nat × List (Option Nat)} (hR : RepN h C F C0 nc ns) (hr : C.gal o = some q) : ∃ fs, x_pt h o (.inr (2, fs)) := by
  cases o with
  | none => cases hr
  | some a =>
    obtain ⟨-, -, e, m, h1, -⟩ := (hR.1.1 a).2.2.2.1 q hr
    exact ⟨_, a, rfl, h1⟩
end B
end XRu
