section XH
variable {u : xPi} {mt : Nat → xM} {y : xM} {pcs : Nat → Nat} {k k1 kt : Nat}
def x_tbok (pcs : Nat → Nat) (pc : Nat) : Int → List Int → List (Int32 × Nat) → Bool
  | _, [], [] => true
  | lo, a :: r, b :: q => decide (b.1.toInt = lo) && decide ((pc : Int) + a = (pcs b.2 : Int)) && x_tbok pcs pc (lo + 1) r q
  | _, _, _ => false
theorem x_tbof {pcs : Nat → Nat} {pc kd : Nat} (x : Int32) : ∀ (as : List Int) (ps : List (Int32 × Nat)) (lo : Int), x_tbok pcs pc lo as ps = true →
    (∀ (i : Nat) (off : Int), as[i]? = some off → x.toInt = lo + i → (pc : Int) + off = (pcs (x_case ps kd x) : Int)) ∧ ((x.toInt < lo ∨ lo + as.length ≤ x.toInt) → x_case ps kd x = kd) := by
  intro as
  induction as with
  | nil =>
    intro ps lo h
    cases ps with
    | nil => exact ⟨fun i off hi => by simp at hi, fun _ => rfl⟩
    | cons b q => simp [x_tbok] at h
  | cons a r ih =>
    intro ps lo h
    cases ps with
    | nil => simp [x_tbok] at h
    | cons b q =>
      simp only [x_tbok, Bool.and_eq_true, decide_eq_true_eq] at h
      obtain ⟨⟨h1, h2⟩, h3⟩ := h
      obtain ⟨g1, g2⟩ := ih q (lo + 1) h3
      constructor
      · intro i off hi hx
        unfold x_case
        cases i with
        | zero =>
          have e : x = b.1 := Int32.toInt_inj.mp (by rw [hx, h1]; simp)
          rw [if_pos e]
          simp at hi
          rw [← hi]
          exact h2
        | succ i =>
          have e : ¬ x = b.1 := fun q => by rw [q, h1] at hx; simp at hx; omega
          rw [if_neg e]
          exact g1 i off (by simpa using hi) (by rw [hx]; push_cast; omega)
      · intro hx
        unfold x_case
        have e : ¬ x = b.1 := fun q => by rw [q, h1] at hx; simp at hx; omega
        rw [if_neg e]
        exact g2 (by simp at hx; omega)
theorem xo_table {d lo hi : Int} {offs : Array Int} {len kd : Nat} {ps : List (Int32 × Nat)} (hd : decode y.2.1 (pcs k) = .ok (.tableswitch d lo hi offs, len)) (h0 : (pcs k : Int) + d = (pcs kd : Int)) (hh : lo + offs.toList.length = hi + 1) (h1 : x_tbok pcs (pcs k) lo offs.toList ps = true) : x_ok u mt y pcs k (xi_switch ps kd) := by
  intro p l e R s m args below meth c hc hf0 hl0 lv st h nc ns o ho
  unfold xi_switch at ho
  split at ho
  · rename_i x r
    cases ho
    refine x_go (Nat.le_refl _) (Nat.le_refl _) (fun Q _ _ hK ls H locs hl hR hS => ?_)
    obtain ⟨g1, g2⟩ := x_tbof (kd := kd) x offs.toList ps lo h1
    by_cases hx : x.toInt < lo ∨ hi < x.toInt
    · dsimp only at hK
      rw [g2 (by omega)] at hK
      exact lv_tableOut hc.1 hc.2.1 hd hx h0 (hK ls H locs hl hR hS)
    · have hlt : (x.toInt - lo).toNat < offs.toList.length := by omega
      have hof : offs[(x.toInt - lo).toNat]? = some (offs.toList[(x.toInt - lo).toNat]) := by
        rw [← Array.getElem?_toList]
        exact List.getElem?_eq_getElem hlt
      exact lv_tableIn hc.1 hc.2.1 hd (fun q => hx (Or.inl q)) (fun q => hx (Or.inr q)) hof (g1 _ _ (List.getElem?_eq_getElem hlt) (by omega)) (hK ls H locs hl hR hS)
  · cases ho
/-! two references -/
def x_rr (v : Value) : Option (Option Nat) := match v with
  | .ref a => some (some a)
  | .null => some none
  | _ => none
theorem x_rr_v {ad : Nat → Nat} {v : Value} {r : Option Nat} (h : x_rr v = some r) : x_v ad v = va_rf (r.map ad) := by
  cases v <;> simp [x_rr] at h <;> subst h <;> rfl
/-- the numbers of texts that were there before -/
def x_isR (i : Nat) : Bool := Nat.ble 1000000100 i && Nat.blt i 1000000200
/-- numbers of own cells are compared with any, those of texts with each other; others only with themselves -/
def x_same (a b : Option Nat) : Option Bool := match a, b with
  | none, none => some true
  | none, some _ => some false
  | some _, none => some false
  | some i, some j => if i = j then some true else if i < xT ∨ j < xT then some false else if x_isR i = true ∧ x_isR j = true then some false else none
theorem x_same_of (hx : ∀ j, xT ≤ j → xp_ad u j < xp_b u) (hy : ∀ i j, x_isR i = true → x_isR j = true → i ≠ j → xp_ad u i ≠ xp_ad u j) {a b : Option Nat} {z : Bool} (h : x_same a b = some z) : (a.map (xp_ad u) = b.map (xp_ad u)) ↔ z = true := by
  have ow : ∀ i, i < xT → xp_ad u i = xp_b u + i := fun i hi => x_ad_own hi
  cases a with
  | none => cases b <;> simp [x_same] at h <;> subst h <;> simp
  | some i =>
    cases b with
    | none => simp [x_same] at h; subst h; simp
    | some j =>
      simp only [x_same] at h
      split at h
      · rename_i e
        cases h
        subst e
        simp
      · rename_i e
        split at h
        · rename_i g
          cases h
          simp only [Option.map_some, Option.some.injEq]
          constructor
          · intro q
            exfalso
            by_cases hi : i < xT
            · rw [ow i hi] at q
              by_cases hj : j < xT
              · rw [ow j hj] at q; omega
              · have := hx j (by omega); omega
            · have hj : j < xT := by omega
              rw [ow j hj] at q
              have := hx i (by omega)
              omega
          · intro q; cases q
        · split at h
          · rename_i g
            cases h
            simp only [Option.map_some, Option.some.injEq]
            exact ⟨fun q => absurd q (hy i j g.1 g.2 e), fun q => by cases q⟩
          · cases h
def xi_acmp (eq : Bool) (kt k1 : Nat) : xI := fun lv st h nc ns => match st with
  | b :: a :: r => match x_rr a, x_rr b with
    | some x, some z => match x_same x z with
      | some w => some (.inl (if w = eq then kt else k1, lv, r, h, nc, ns))
      | none => none
    | _, _ => none
  | _ => none
theorem xo_acmp_eq (hx : ∀ j, xT ≤ j → xp_ad u j < xp_b u) (hy : ∀ i j, x_isR i = true → x_isR j = true → i ≠ j → xp_ad u i ≠ xp_ad u j) {off : Int} (hd : decode y.2.1 (pcs k) = .ok (.if_acmp .eq off, 3)) (ht : (pcs k : Int) + off = (pcs kt : Int)) (hn : pcs k1 = pcs k + 3) : x_ok u mt y pcs k (xi_acmp true kt k1) := by
  intro p l e R s m args below meth c hc hf0 hl0 lv st h nc ns o ho
  unfold xi_acmp at ho
  split at ho
  · rename_i b a r
    split at ho
    · rename_i x z h1 h2
      split at ho
      · rename_i w hw
        cases ho
        refine x_go (Nat.le_refl _) (Nat.le_refl _) (fun Q _ _ hK ls H locs hl hR hS => ?_)
        dsimp only at hK
        simp only [List.map_cons]
        rw [x_rr_v h1, x_rr_v h2]
        refine lv_acmp_eq hc.1 hc.2.1 hd ht (fun q => ?_) (fun q => ?_)
        · rw [if_pos ((x_same_of hx hy hw).mp q)] at hK
          exact hK ls H locs hl hR hS
        · rw [if_neg (fun g => q ((x_same_of hx hy hw).mpr g))] at hK
          rw [← hn]
          exact hK ls H locs hl hR hS
      · cases ho
    · cases ho
  · cases ho
theorem xo_acmp_ne (hx : ∀ j, xT ≤ j → xp_ad u j < xp_b u) (hy : ∀ i j, x_isR i = true → x_isR j = true → i ≠ j → xp_ad u i ≠ xp_ad u j) {off : Int} (hd : decode y.2.1 (pcs k) = .ok (.if_acmp .ne off, 3)) (ht : (pcs k : Int) + off = (pcs kt : Int)) (hn : pcs k1 = pcs k + 3) : x_ok u mt y pcs k (xi_acmp false kt k1) := by
  intro p l e R s m args below meth c hc hf0 hl0 lv st h nc ns o ho
  unfold xi_acmp at ho
  split at ho
  · rename_i b a r
    split at ho
    · rename_i x z h1 h2
      split at ho
      · rename_i w hw
        cases ho
        refine x_go (Nat.le_refl _) (Nat.le_refl _) (fun Q _ _ hK ls H locs hl hR hS => ?_)
        dsimp only at hK
        simp only [List.map_cons]
        rw [x_rr_v h1, x_rr_v h2]
        refine lv_acmp_ne hc.1 hc.2.1 hd ht (fun q => ?_) (fun q => ?_)
        · have e : w = false := by
            cases w
            · rfl
            · exact absurd ((x_same_of hx hy hw).mpr rfl) q
          rw [if_pos e] at hK
          exact hK ls H locs hl hR hS
        · have e : w = true := (x_same_of hx hy hw).mp q
          rw [if_neg (by rw [e]; simp)] at hK
          rw [← hn]
          exact hK ls H locs hl hR hS
      · cases ho
    · cases ho
  · cases ho
/-! fields: a table tells for each class of objects that may stand there which of its fields is meant -/
def x_look (tab : List (Nat × Nat)) (ci : Nat) : Option Nat := match tab.find? (fun q => q.1 == ci) with
  | some q => some q.2
  | none => none
theorem x_look_mem {tab : List (Nat × Nat)} {ci kf : Nat} (h : x_look tab ci = some kf) : (ci, kf) ∈ tab := by
  unfold x_look at h
  split at h
  · rename_i q hq
    cases h
    have h1 := List.find?_some hq
    have h2 := List.mem_of_find?_eq_some hq
    have h3 : q.1 = ci := by simpa using h1
    rw [← h3]
    exact h2
  · cases h
def x_fok (u : xPi) (own : String) (idx : Nat) (q : Nat × Nat) : Prop := ∃ (C : String) (T : u_T) (N : Nat) (ref : String), (xp_cl u)[q.1]? = some (C, T, N) ∧ q.2 < N ∧ (∀ w ∈ u_ws C T N, w ∈ xp_G u) ∧
  (Cond.fieldLink own idx ref (T q.2).2.1 (T q.2).2.2.1 ∈ xp_G u ∨ ∃ host, Cond.fieldLinkNest own idx ref (T q.2).2.1 (T q.2).2.2.1 host ∈ xp_n u) ∧ ((T q.2).1 = ref ∨ Cond.sameField ref (T q.2).1 (T q.2).2.1 (T q.2).2.2.1 ∈ xp_G u)
def xi_getfield (k1 : Nat) (tab : List (Nat × Nat)) : xI := fun lv st h nc ns => match st with
  | .ref a :: r => match h[a]? with
    | some (.inr w) => match x_look tab w.1 with
      | some kf => match w.2[kf]? with
        | some v => some (.inl (k1, lv, v :: r, h, nc, ns))
        | none => none
      | none => none
    | _ => none
  | _ => none
theorem xo_getfield {idx : Nat} {tab : List (Nat × Nat)} (hf : ∀ q ∈ tab, x_fok u y.1.cls idx q) (hd : decode y.2.1 (pcs k) = .ok (.getfield idx, 3)) (hn : pcs k1 = pcs k + 3) : x_ok u mt y pcs k (xi_getfield k1 tab) := by
  intro p l e R s m args below meth c hc hf0 hl0 lv st h nc ns o ho
  unfold xi_getfield at ho
  split at ho
  · rename_i a r
    split at ho
    · rename_i w hw
      split at ho
      · rename_i kf hkf
        split at ho
        · rename_i v hv
          cases ho
          refine x_go (Nat.le_refl _) (Nat.le_refl _) (fun Q _ _ hK ls H locs hl hR hS => ?_)
          obtain ⟨C, T, N, ref, g1, g2, g3, g4, g5⟩ := hf _ (x_look_mem hkf)
          have hts := hc.2.2.2.2.1
          have hin : ∀ z ∈ u_ws C T N, z ∈ xp_G u := g3
          have hE := hc.2.2.2.2.2.2.2.2
          have hsame : ∀ x, s.fieldFound? (T kf).1 (T kf).2.1 (T kf).2.2.1 = some x → s.fieldFound? ref (T kf).2.1 (T kf).2.2.1 = some x := by
            intro x hx
            rcases g5 with g5 | g5
            · rw [← g5]; exact hx
            · exact u_same (hts _ g5) x hx
          have hv' : (w.2.map (x_v (xp_ad u)))[kf]? = some (x_v (xp_ad u) v) := by rw [List.getElem?_map, hv]; rfl
          rcases g4 with g4 | ⟨host, g4⟩
          · refine va_get (a := xp_ad u a) (fs := w.2.map (x_v (xp_ad u))) hc.1 hc.2.1 hts hin hc.2.2.2.1 hE.2.2.2.2.1 (x_P1 hR hw trivial) 0 rfl g1 kf g2 (hts _ g4) hsame hv' hd ?_
            rw [← hn]
            exact hK ls H locs hl hR hS
          · refine va_getN (a := xp_ad u a) (fs := w.2.map (x_v (xp_ad u))) hc.1 hc.2.1 hts hin hc.2.2.2.1 hE.2.2.2.2.1 (x_P1 hR hw trivial) 0 rfl g1 kf g2 (va_Nw.use rfl (hE.2.2.1 _ g4).2) hsame hv' hd ?_
            rw [← hn]
            exact hK ls H locs hl hR hS
        · cases ho
      · cases ho
    · cases ho
  · cases ho
end XH
