section XF
/-! how a cell's change, and a new cell, show in the abstract cells -/
theorem x_R_set {u : xPi} {h : xH} {H H1 : Heap} {a : Nat} {q0 q1 : xE} (hR : x_R u h H) (ha : h[a]? = some q0) (he : va_at (xp_D u) (xp_cl u) (xp_ad u a, x_c (xp_ty u) (xp_ad u) q1) H1) (z : H1.size = H.size) (oq : ∀ q : Nat, q ≠ xp_ad u a → H1[q]? = H[q]?) : x_R u (h.set a q1) H1 := by
  obtain ⟨h1, h2, h3⟩ := hR
  refine ⟨by rw [z, h1, List.length_set], by rw [List.length_set]; exact h2, fun i q hi hv => ?_⟩
  have hal : a < h.length := (List.getElem?_eq_some_iff.mp ha).1
  by_cases e : a = i
  · subst e
    rw [List.getElem?_set_self hal] at hi
    cases hi
    exact he
  · rw [List.getElem?_set_ne e] at hi
    have hil : i < h.length := (List.getElem?_eq_some_iff.mp hi).1
    refine (h3 i q hi hv).kept (oq _ (fun q => ?_))
    have e1 : xp_ad u i = xp_b u + i := x_ad_own (by omega)
    have e2 : xp_ad u a = xp_b u + a := x_ad_own (by omega)
    dsimp only at q
    omega
theorem x_R_push {u : xPi} {h : xH} {H H1 : Heap} {q1 : xE} (hR : x_R u h H) (hl : h.length < xT) (he : va_at (xp_D u) (xp_cl u) (H.size, x_c (xp_ty u) (xp_ad u) q1) H1) (z : H1.size = H.size + 1) (oq : ∀ q : Nat, q < H.size → H1[q]? = H[q]?) : x_R u (h ++ [q1]) H1 ∧ xp_ad u h.length = H.size := by
  obtain ⟨h1, h2, h3⟩ := hR
  have had : xp_ad u h.length = H.size := by rw [h1]; exact x_ad_own hl
  refine ⟨⟨by rw [z, h1, List.length_append]; simp; omega, by rw [List.length_append]; simp; omega, fun i q hi hv => ?_⟩, had⟩
  by_cases e : i < h.length
  · rw [List.getElem?_append_left e] at hi
    have h4 := h3 i q hi hv
    exact h4.kept (oq _ h4.lt)
  · rw [List.getElem?_append_right (by omega)] at hi
    have hz : i - h.length < 1 := (List.getElem?_eq_some_iff.mp hi).1
    rw [show i - h.length = 0 by omega] at hi
    cases hi
    rw [show i = h.length by omega, had]
    exact he
theorem x_S_put {u : xPi} {s : State} {H H1 : Heap} {locs : List Loc} {a k : Nat} {h : xH} {q0 : xE} (hS : va_S (xp_A u) s.heap H locs) (hR : x_R u h H) (ha : h[a]? = some q0) (z : H1.size = H.size) (oq : ∀ q : Nat, q ≠ xp_ad u a → H1[q]? = H[q]?) : va_S (xp_A u) s.heap H1 (locs ++ [⟨xp_ad u a, k⟩]) :=
  hS.put z oq (by
    have hal : a < h.length := (List.getElem?_eq_some_iff.mp ha).1
    have e2 : xp_ad u a = xp_b u + a := x_ad_own (by have := hR.2.1; omega)
    show xp_b u ≤ xp_ad u a
    omega)
theorem x_S_push {u : xPi} {s : State} {H H1 : Heap} {locs : List Loc} (hS : va_S (xp_A u) s.heap H locs) (z : H1.size = H.size + 1) (oq : ∀ q : Nat, q < H.size → H1[q]? = H[q]?) : va_S (xp_A u) s.heap H1 locs :=
  ⟨Nat.le_trans hS.1 (by omega), fun x h1 h2 => (oq x (Nat.lt_of_lt_of_le h1 hS.1)).trans (hS.2.1 x h1 h2), hS.2.2⟩
section Rt
variable {u : xPi} {mt : Nat → xM} {y : xM} {pcs : Nat → Nat} {k : Nat} {p : Program} {l : Launch} {e : Env} {R : Room} {s : State} {m : MethodId} {args : Array Value} {below : List Frame} {meth : Method} {c : Code} {lv : xL} {st : List Value} {h : xH} {nc ns : Nat}
theorem x_rt {rv : Option Value} {h2 : xH} (h3 : ∀ Qc : Array Value → State → Outcome → State → Prop,
        (∀ t : State, x_R u h2 t.heap → va_F (xp_A u) s t → Qc args s (.returned (rv.map (x_v (xp_ad u)))) t) → x_K u y.2.2.1 p l e R s m args below meth c (MQ below Qc args s nc ns (xp_A u)) (pcs k) lv st h nc ns) :
      (∀ g' : xG, (Sum.inr (.inl (rv, h2, nc, ns)) : xO) = .inl g' → nc ≤ g'.2.2.2.2.1 ∧ ns ≤ g'.2.2.2.2.2 ∧ ∀ Q : State → Prop, g'.2.2.2.2.1 ≤ R.cells → g'.2.2.2.2.2 ≤ R.slots →
        x_K u y.2.2.1 p l e R s m args below meth c Q (pcs g'.1) g'.2.1 g'.2.2.1 g'.2.2.2.1 g'.2.2.2.2.1 g'.2.2.2.2.2 → x_K u y.2.2.1 p l e R s m args below meth c Q (pcs k) lv st h nc ns) ∧
      (∀ r : Option Value × xH × Nat × Nat, (Sum.inr (.inl (rv, h2, nc, ns)) : xO) = .inr (.inl r) → r.2.2.1 = nc ∧ r.2.2.2 = ns ∧ ∀ Qc : Array Value → State → Outcome → State → Prop,
        (∀ t : State, x_R u r.2.1 t.heap → va_F (xp_A u) s t → Qc args s (.returned (r.1.map (x_v (xp_ad u)))) t) → x_K u y.2.2.1 p l e R s m args below meth c (MQ below Qc args s nc ns (xp_A u)) (pcs k) lv st h nc ns) ∧
      (∀ (j : Nat) (as : List Value) (g' : xG), (Sum.inr (.inl (rv, h2, nc, ns)) : xO) = .inr (.inr (j, as, g')) → nc ≤ g'.2.2.2.2.1 ∧ ns ≤ g'.2.2.2.2.2 ∧ ∀ (Q : State → Prop) (d : Nat) (r : Option Value) (h1 : xH) (mc ms : Nat), x_Met u l (mt j) d as g'.2.2.2.1 r h1 mc ms → d + 2 ≤ R.frames → 64 * (d + 2) ≤ R.locals → g'.2.2.2.2.1 + mc ≤ R.cells → g'.2.2.2.2.2 + ms ≤ R.slots →
        x_K u y.2.2.1 p l e R s m args below meth c Q (pcs g'.1) g'.2.1 (r.toList ++ g'.2.2.1) h1 (g'.2.2.2.2.1 + mc) (g'.2.2.2.2.2 + ms) → x_K u y.2.2.1 p l e R s m args below meth c Q (pcs k) lv st h nc ns) := by
  refine ⟨fun g' hg => (by cases hg), fun r hr => ?_, fun j as g' hg => (by cases hg)⟩
  cases hr
  exact ⟨rfl, rfl, h3⟩
theorem x_cl {j : Nat} {as : List Value} {g : xG} (h1 : nc ≤ g.2.2.2.2.1) (h2 : ns ≤ g.2.2.2.2.2) (h3 : ∀ (Q : State → Prop) (d : Nat) (r : Option Value) (h1 : xH) (mc ms : Nat), x_Met u l (mt j) d as g.2.2.2.1 r h1 mc ms → d + 2 ≤ R.frames → 64 * (d + 2) ≤ R.locals → g.2.2.2.2.1 + mc ≤ R.cells → g.2.2.2.2.2 + ms ≤ R.slots →
        x_K u y.2.2.1 p l e R s m args below meth c Q (pcs g.1) g.2.1 (r.toList ++ g.2.2.1) h1 (g.2.2.2.2.1 + mc) (g.2.2.2.2.2 + ms) → x_K u y.2.2.1 p l e R s m args below meth c Q (pcs k) lv st h nc ns) :
      (∀ g' : xG, (Sum.inr (.inr (j, as, g)) : xO) = .inl g' → nc ≤ g'.2.2.2.2.1 ∧ ns ≤ g'.2.2.2.2.2 ∧ ∀ Q : State → Prop, g'.2.2.2.2.1 ≤ R.cells → g'.2.2.2.2.2 ≤ R.slots →
        x_K u y.2.2.1 p l e R s m args below meth c Q (pcs g'.1) g'.2.1 g'.2.2.1 g'.2.2.2.1 g'.2.2.2.2.1 g'.2.2.2.2.2 → x_K u y.2.2.1 p l e R s m args below meth c Q (pcs k) lv st h nc ns) ∧
      (∀ r : Option Value × xH × Nat × Nat, (Sum.inr (.inr (j, as, g)) : xO) = .inr (.inl r) → r.2.2.1 = nc ∧ r.2.2.2 = ns ∧ ∀ Qc : Array Value → State → Outcome → State → Prop,
        (∀ t : State, x_R u r.2.1 t.heap → va_F (xp_A u) s t → Qc args s (.returned (r.1.map (x_v (xp_ad u)))) t) → x_K u y.2.2.1 p l e R s m args below meth c (MQ below Qc args s nc ns (xp_A u)) (pcs k) lv st h nc ns) ∧
      (∀ (j' : Nat) (as' : List Value) (g' : xG), (Sum.inr (.inr (j, as, g)) : xO) = .inr (.inr (j', as', g')) → nc ≤ g'.2.2.2.2.1 ∧ ns ≤ g'.2.2.2.2.2 ∧ ∀ (Q : State → Prop) (d : Nat) (r : Option Value) (h1 : xH) (mc ms : Nat), x_Met u l (mt j') d as' g'.2.2.2.1 r h1 mc ms → d + 2 ≤ R.frames → 64 * (d + 2) ≤ R.locals → g'.2.2.2.2.1 + mc ≤ R.cells → g'.2.2.2.2.2 + ms ≤ R.slots →
        x_K u y.2.2.1 p l e R s m args below meth c Q (pcs g'.1) g'.2.1 (r.toList ++ g'.2.2.1) h1 (g'.2.2.2.2.1 + mc) (g'.2.2.2.2.2 + ms) → x_K u y.2.2.1 p l e R s m args below meth c Q (pcs k) lv st h nc ns) := by
  refine ⟨fun g' hg => (by cases hg), fun r hr => (by cases hr), fun j' as' g' hg => ?_⟩
  cases hg
  exact ⟨h1, h2, h3⟩
end Rt
variable {u : xPi} {mt : Nat → xM} {y : xM} {pcs : Nat → Nat} {k k1 kt : Nat}
/-! answers -/
def xi_return : xI := fun _ st h nc ns => match st with
  | [] => some (.inr (.inl (none, h, nc, ns)))
  | _ => none
theorem xo_return (hr : y.2.2.2 = none) (hd : decode y.2.1 (pcs k) = .ok (.return_, 1)) : x_ok u mt y pcs k xi_return := by
  intro p l e R s m args below meth c hc hf0 hl0 lv st h nc ns o ho
  unfold xi_return at ho
  split at ho
  · cases ho
    refine x_rt (fun Qc hq ls H locs hl hR hS => ?_)
    exact W.vret hc.1 hc.2.1 (by rw [hc.2.2.2.2.2.1]; exact hr) (fun t ht hW => hq t (by rw [ht]; exact hR) (hS.F ht)) hS.2.2 hd (hlocks := hc.2.2.2.2.2.2.1)
  · cases ho
def xi_ireturn : xI := fun _ st h nc ns => match st with
  | [.int v] => some (.inr (.inl (some (.int v), h, nc, ns)))
  | _ => none
theorem xo_ireturn (hr : y.2.2.2 = some .int) (hd : decode y.2.1 (pcs k) = .ok (.ireturn, 1)) : x_ok u mt y pcs k xi_ireturn := by
  intro p l e R s m args below meth c hc hf0 hl0 lv st h nc ns o ho
  unfold xi_ireturn at ho
  split at ho
  · cases ho
    refine x_rt (fun Qc hq ls H locs hl hR hS => ?_)
    exact W.iret hc.1 hc.2.1 (by rw [hc.2.2.2.2.2.1]; exact hr) (fun t ht hW => hq t (by rw [ht]; exact hR) (hS.F ht)) hS.2.2 hd (hlocks := hc.2.2.2.2.2.2.1)
  · cases ho
def xi_zreturn (ty : FieldType) : xI := fun _ st h nc ns => match st with
  | [.int v] => if narrow ty (.int v) = .int v then some (.inr (.inl (some (.int v), h, nc, ns))) else none
  | _ => none
theorem xo_zreturn {ty : FieldType} (hr : y.2.2.2 = some ty) (hd : decode y.2.1 (pcs k) = .ok (.ireturn, 1)) : x_ok u mt y pcs k (xi_zreturn ty) := by
  intro p l e R s m args below meth c hc hf0 hl0 lv st h nc ns o ho
  unfold xi_zreturn at ho
  split at ho
  · split at ho
    · rename_i hz
      cases ho
      refine x_rt (fun Qc hq ls H locs hl hR hS => ?_)
      exact W.zret hc.1 hc.2.1 (by rw [hc.2.2.2.2.2.1]; exact hr) hz (fun t ht hW => hq t (by rw [ht]; exact hR) (hS.F ht)) hS.2.2 hd (hlocks := hc.2.2.2.2.2.2.1)
    · cases ho
  · cases ho
def xi_lreturn : xI := fun _ st h nc ns => match st with
  | [.long v] => some (.inr (.inl (some (.long v), h, nc, ns)))
  | _ => none
theorem xo_lreturn (hr : y.2.2.2 = some .long) (hd : decode y.2.1 (pcs k) = .ok (.lreturn, 1)) : x_ok u mt y pcs k xi_lreturn := by
  intro p l e R s m args below meth c hc hf0 hl0 lv st h nc ns o ho
  unfold xi_lreturn at ho
  split at ho
  · cases ho
    refine x_rt (fun Qc hq ls H locs hl hR hS => ?_)
    exact W.lret hc.1 hc.2.1 (by rw [hc.2.2.2.2.2.1]; exact hr) (fun t ht hW => hq t (by rw [ht]; exact hR) (hS.F ht)) hS.2.2 hd (hlocks := hc.2.2.2.2.2.2.1)
  · cases ho
def xi_areturn : xI := fun _ st h nc ns => match st with
  | [.ref a] => some (.inr (.inl (some (.ref a), h, nc, ns)))
  | [.null] => some (.inr (.inl (some .null, h, nc, ns)))
  | _ => none
theorem xo_areturn {rt : FieldType} (hr : y.2.2.2 = some rt) (hrt : (∃ n, rt = .object n) ∨ ∃ t, rt = .array t) (hd : decode y.2.1 (pcs k) = .ok (.areturn, 1)) : x_ok u mt y pcs k xi_areturn := by
  intro p l e R s m args below meth c hc hf0 hl0 lv st h nc ns o ho
  unfold xi_areturn at ho
  split at ho
  · cases ho
    refine x_rt (fun Qc hq ls H locs hl hR hS => ?_)
    exact W.aret hc.1 hc.2.1 (by rw [hc.2.2.2.2.2.1]; exact hr) hrt (Or.inr ⟨_, rfl⟩) (fun t ht hW => hq t (by rw [ht]; exact hR) (hS.F ht)) hS.2.2 hd (hlocks := hc.2.2.2.2.2.2.1)
  · cases ho
    refine x_rt (fun Qc hq ls H locs hl hR hS => ?_)
    exact W.aret hc.1 hc.2.1 (by rw [hc.2.2.2.2.2.1]; exact hr) hrt (Or.inl rfl) (fun t ht hW => hq t (by rw [ht]; exact hR) (hS.F ht)) hS.2.2 hd (hlocks := hc.2.2.2.2.2.2.1)
  · cases ho
/-! switches: a list of numbers with where they lead, and where all others do -/
def x_case (ps : List (Int32 × Nat)) (d : Nat) (x : Int32) : Nat := match ps with
  | [] => d
  | q :: r => if x = q.1 then q.2 else x_case r d x
def xi_switch (ps : List (Int32 × Nat)) (d : Nat) : xI := fun lv st h nc ns => match st with
  | .int x :: r => some (.inl (x_case ps d x, lv, r, h, nc, ns))
  | _ => none
def x_swok (pcs : Nat → Nat) (pc : Nat) : List (Int × Int) → List (Int32 × Nat) → Bool
  | [], [] => true
  | a :: r, b :: q => decide (b.1.toInt = a.1) && decide ((pc : Int) + a.2 = (pcs b.2 : Int)) && x_swok pcs pc r q
  | _, _ => false
theorem x_swof {pcs : Nat → Nat} {pc kd : Nat} {d : Int} (hd : (pc : Int) + d = (pcs kd : Int)) (x : Int32) : ∀ (as : List (Int × Int)) (ps : List (Int32 × Nat)), x_swok pcs pc as ps = true → (pc : Int) + Op.lookupswitch.offset as d x.toInt = (pcs (x_case ps kd x) : Int) := by
  intro as
  induction as with
  | nil =>
    intro ps h
    cases ps with
    | nil => exact hd
    | cons b q => simp [x_swok] at h
  | cons a r ih =>
    intro ps h
    cases ps with
    | nil => simp [x_swok] at h
    | cons b q =>
      simp only [x_swok, Bool.and_eq_true, decide_eq_true_eq] at h
      obtain ⟨⟨h1, h2⟩, h3⟩ := h
      unfold x_case
      by_cases hx : x = b.1
      · rw [if_pos hx]
        subst hx
        obtain ⟨a1, a2⟩ := a
        dsimp only at h1 h2
        subst h1
        simpa [Op.lookupswitch.offset] using h2
      · rw [if_neg hx]
        obtain ⟨a1, a2⟩ := a
        rw [lv_osw hx h1]
        exact ih q h3
theorem xo_lookup {d : Int} {as : Array (Int × Int)} {len kd : Nat} {ps : List (Int32 × Nat)} (hd : decode y.2.1 (pcs k) = .ok (.lookupswitch d as, len)) (hp : (as.toList.zip (as.toList.drop 1)).all (fun (a, next) => a.1 < next.1) = true) (h0 : (pcs k : Int) + d = (pcs kd : Int)) (h1 : x_swok pcs (pcs k) as.toList ps = true) : x_ok u mt y pcs k (xi_switch ps kd) := by
  intro p l e R s m args below meth c hc hf0 hl0 lv st h nc ns o ho
  unfold xi_switch at ho
  split at ho
  · rename_i x r
    cases ho
    refine x_go (Nat.le_refl _) (Nat.le_refl _) (fun Q _ _ hK ls H locs hl hR hS => ?_)
    exact lv_lookup hc.1 hc.2.1 hd hp rfl (x_swof h0 x _ _ h1) (hK ls H locs hl hR hS)
  · cases ho
end XF
