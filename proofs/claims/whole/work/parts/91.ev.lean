section XEv
theorem x_run_s1 {pr : xPr} : ∀ (n : Nat) {d j k : Nat} {lv : xL} {st : List Value} {h : xH} {nc ns : Nat} {r : Option Value × xH × Nat × Nat}, x_run pr n d j k lv st h nc ns = some r → x_run pr (n + 1) d j k lv st h nc ns = some r := by
  intro n
  induction n with
  | zero => intro d j k lv st h nc ns r hr; rw [x_run_0] at hr; cases hr
  | succ n ih =>
    intro d j k lv st h nc ns r hr
    rw [x_run_s] at hr ⊢
    unfold x_step at hr ⊢
    split at hr
    · cases hr
    · exact ih hr
    · exact hr
    · split at hr
      · cases hr
      · split at hr
        · cases hr
        · split at hr
          · cases hr
          · rename_i r2 hr2
            rw [ih hr2]
            exact ih hr
theorem x_run_le {pr : xPr} {n m d j k : Nat} {lv : xL} {st : List Value} {h : xH} {nc ns : Nat} {r : Option Value × xH × Nat × Nat} (hm : n ≤ m) (hr : x_run pr n d j k lv st h nc ns = some r) : x_run pr m d j k lv st h nc ns = some r := by
  induction hm with
  | refl => exact hr
  | step _ ih => exact x_run_s1 _ ih
/-- method j of the program comes from a place to its answer -/
def x_Ev (d j k : Nat) (lv : xL) (st : List Value) (h : xH) (nc ns : Nat) (r : Option Value × xH × Nat × Nat) : Prop := ∃ n, x_run x_pr n d j k lv st h nc ns = some r
theorem ev_1 {d j k k' : Nat} {lv lv' : xL} {st st' : List Value} {h h' : xH} {nc ns nc' ns' : Nat} {r : Option Value × xH × Nat × Nat} (hs : (x_pr j).2 k lv st h nc ns = some (.inl (k', lv', st', h', nc', ns'))) (hr : x_Ev d j k' lv' st' h' nc' ns' r) : x_Ev d j k lv st h nc ns r := by
  obtain ⟨n, hn⟩ := hr
  refine ⟨n + 1, ?_⟩
  rw [x_run_s]
  unfold x_step
  rw [hs]
  exact hn
theorem ev_r {d j k : Nat} {lv : xL} {st : List Value} {h : xH} {nc ns : Nat} {r : Option Value × xH × Nat × Nat} (hs : (x_pr j).2 k lv st h nc ns = some (.inr (.inl r))) : x_Ev d j k lv st h nc ns r := by
  refine ⟨1, ?_⟩
  rw [x_run_s]
  unfold x_step
  rw [hs]
theorem ev_c {d j j' k k' : Nat} {as : List Value} {lv lv' : xL} {st st' : List Value} {h h' h1 : xH} {nc ns nc' ns' mc ms : Nat} {r1 : Option Value} {r : Option Value × xH × Nat × Nat} (hs : (x_pr j).2 k lv st h nc ns = some (.inr (.inr (j', as, (k', lv', st', h', nc', ns'))))) (hf : x_fit as (x_pr j').1.2.2.1 = true) (hc : x_Ev d j' 0 (lv_args 0 as) [] h' 0 0 (r1, h1, mc, ms)) (hr : x_Ev (d + 1) j k' lv' (r1.toList ++ st') h1 (nc' + mc) (ns' + ms) r) : x_Ev (d + 1) j k lv st h nc ns r := by
  obtain ⟨n1, e1⟩ := hc
  obtain ⟨n2, e2⟩ := hr
  refine ⟨n1 + n2 + 1, ?_⟩
  rw [x_run_s]
  unfold x_step
  rw [hs]
  dsimp only
  rw [hf]
  dsimp only
  rw [x_run_le (Nat.le_add_right n1 n2) e1]
  exact x_run_le (Nat.le_add_left n2 n1) e2
theorem ev_run {n d j k : Nat} {lv : xL} {st : List Value} {h : xH} {nc ns : Nat} {r : Option Value × xH × Nat × Nat} (hr : x_run x_pr n d j k lv st h nc ns = some r) : x_Ev d j k lv st h nc ns r := ⟨n, hr⟩
theorem ev_pc {d j k k' : Nat} {lv : xL} {st : List Value} {h : xH} {nc ns : Nat} {r : Option Value × xH × Nat × Nat} (hk : k = k') (hr : x_Ev d j k' lv st h nc ns r) : x_Ev d j k lv st h nc ns r := hk ▸ hr
/-- from a place, an answer of which Z holds -/
def x_WP (d j k : Nat) (lv : xL) (st : List Value) (h : xH) (nc ns : Nat) (Z : Option Value → xH → Nat → Nat → Prop) : Prop := ∃ (v : Option Value) (h' : xH) (mc ms : Nat), x_Ev d j k lv st h nc ns (v, h', mc, ms) ∧ Z v h' mc ms
theorem wp_1 {d j k k' : Nat} {lv lv' : xL} {st st' : List Value} {h h' : xH} {nc ns nc' ns' : Nat} {Z : Option Value → xH → Nat → Nat → Prop} (hs : (x_pr j).2 k lv st h nc ns = some (.inl (k', lv', st', h', nc', ns'))) (hr : x_WP d j k' lv' st' h' nc' ns' Z) : x_WP d j k lv st h nc ns Z := by
  obtain ⟨v, h1, mc, ms, q1, q2⟩ := hr
  exact ⟨v, h1, mc, ms, ev_1 hs q1, q2⟩
theorem wp_r {d j k : Nat} {lv : xL} {st : List Value} {h h' : xH} {nc ns mc ms : Nat} {v : Option Value} {Z : Option Value → xH → Nat → Nat → Prop} (hs : (x_pr j).2 k lv st h nc ns = some (.inr (.inl (v, h', mc, ms)))) (hz : Z v h' mc ms) : x_WP d j k lv st h nc ns Z := ⟨v, h', mc, ms, ev_r hs, hz⟩
theorem wp_c {d j j' k k' : Nat} {as : List Value} {lv lv' : xL} {st st' : List Value} {h h' : xH} {nc ns nc' ns' : Nat} {Z : Option Value → xH → Nat → Nat → Prop} (hs : (x_pr j).2 k lv st h nc ns = some (.inr (.inr (j', as, (k', lv', st', h', nc', ns'))))) (hf : x_fit as (x_pr j').1.2.2.1 = true) (hc : x_WP d j' 0 (lv_args 0 as) [] h' 0 0 (fun v h1 mc ms => x_WP (d + 1) j k' lv' (v.toList ++ st') h1 (nc' + mc) (ns' + ms) Z)) : x_WP (d + 1) j k lv st h nc ns Z := by
  obtain ⟨v, h1, mc, ms, e1, v2, h2, mc2, ms2, e2, hz⟩ := hc
  exact ⟨v2, h2, mc2, ms2, ev_c hs hf e1 e2, hz⟩
theorem wp_e {d j k : Nat} {lv : xL} {st : List Value} {h h' : xH} {nc ns mc ms : Nat} {v : Option Value} {Z : Option Value → xH → Nat → Nat → Prop} (he : x_Ev d j k lv st h nc ns (v, h', mc, ms)) (hz : Z v h' mc ms) : x_WP d j k lv st h nc ns Z := ⟨v, h', mc, ms, he, hz⟩
theorem wp_mono {d j k : Nat} {lv : xL} {st : List Value} {h : xH} {nc ns : Nat} {Z Y : Option Value → xH → Nat → Nat → Prop} (hw : x_WP d j k lv st h nc ns Y) (hz : ∀ v h' mc ms, Y v h' mc ms → Z v h' mc ms) : x_WP d j k lv st h nc ns Z := by
  obtain ⟨v, h1, mc, ms, q1, q2⟩ := hw
  exact ⟨v, h1, mc, ms, q1, hz _ _ _ _ q2⟩
theorem wp_pc {d j k k' : Nat} {lv : xL} {st : List Value} {h : xH} {nc ns : Nat} {Z : Option Value → xH → Nat → Nat → Prop} (hk : k = k') (hr : x_WP d j k' lv st h nc ns Z) : x_WP d j k lv st h nc ns Z := hk ▸ hr
/-- class's call and reference's call, one answer -/
def x_two (dd j1 j2 : Nat) (as : List Value) (h : xH) (b1 b2 : Nat) : Prop := x_WP dd j1 0 (lv_args 0 (.ref 0 :: as)) [] h 0 0 (fun v h1 mc1 ms1 => ∃ (r : Int32) (f2 : List Value), v = some (.int r) ∧ h1[114]? = some (.inr (20, f2)) ∧ x_WP dd j2 0 (lv_args 0 (.ref 114 :: as)) [] h1 0 0 (fun v2 _ mc2 ms2 => v2 = some (.int r) ∧ mc1 + mc2 ≤ b1 ∧ ms1 + ms2 ≤ b2))
noncomputable def x_chk (fl dd j1 j2 : Nat) (as : List Value) (h : xH) (b1 b2 : Nat) : Bool := match x_run x_pr fl dd j1 0 (lv_args 0 (.ref 0 :: as)) [] h 0 0 with
  | some (some (.int r), h1, mc1, ms1) => match (h1[114]? : Option xE) with
    | some (.inr (20, _)) => match x_run x_pr fl dd j2 0 (lv_args 0 (.ref 114 :: as)) [] h1 0 0 with
      | some (some (.int r2), _, mc2, ms2) => decide (r2 = r) && Nat.ble (mc1 + mc2) b1 && Nat.ble (ms1 + ms2) b2
      | _ => false
    | _ => false
  | _ => false
theorem x_chk_ok {fl dd j1 j2 : Nat} {as : List Value} {h : xH} {b1 b2 : Nat} (hq : x_chk fl dd j1 j2 as h b1 b2 = true) : x_two dd j1 j2 as h b1 b2 := by
  unfold x_chk at hq
  split at hq
  · rename_i r h1 mc1 ms1 e1
    split at hq
    · rename_i f2 e2
      split at hq
      · rename_i r2 h2 mc2 ms2 e3
        simp only [Bool.and_eq_true, decide_eq_true_eq] at hq
        obtain ⟨⟨q1, q2⟩, q3⟩ := hq
        subst q1
        exact ⟨_, _, _, _, ⟨fl, e1⟩, r2, f2, rfl, e2, _, _, _, _, ⟨fl, e3⟩, rfl, Nat.le_of_ble_eq_true q2, Nat.le_of_ble_eq_true q3⟩
      · cases hq
    · cases hq
  · cases hq
/-- what holds of an unnamed thing holds of all -/
theorem x_all {α : Type} [Nonempty α] (f : α → Bool) (h : f (Classical.epsilon (fun w => f w = false)) = true) (w : α) : f w = true := by
  cases e : f w with
  | true => rfl
  | false =>
    have h2 : f (Classical.epsilon (fun w => f w = false)) = false := Classical.epsilon_spec (p := fun w => f w = false) ⟨w, e⟩
    cases h.symm.trans h2
theorem i32_rng {c : Int32} {a b : Nat} (hb : b ≤ 1000000) (h1 : ¬ c < Int32.ofNat a) (h2 : ¬ Int32.ofNat b < c) (hab : a ≤ 1000000) : ∃ m, a ≤ m ∧ m ≤ b ∧ c = Int32.ofNat m := by
  rw [Int32.lt_iff_toInt_lt, Int32.toInt_ofNat_of_lt (by omega)] at h1 h2
  refine ⟨c.toInt.toNat, by omega, by omega, Int32.toInt_inj.mp ?_⟩
  rw [Int32.toInt_ofNat_of_lt (by omega)]
  omega
/-! cells over others, the newest first -/
def x_ss (h : xH) : List (Nat × xE) → xH
  | [] => h
  | q :: r => (x_ss h r).set q.1 q.2
def x_lk : List (Nat × xE) → Nat → Option xE
  | [], _ => none
  | q :: r, a => cond (Nat.beq q.1 a) (some q.2) (x_lk r a)
theorem x_ss_len {h : xH} {l : List (Nat × xE)} : (x_ss h l).length = h.length := by
  induction l with
  | nil => rfl
  | cons q r ih => rw [x_ss, List.length_set, ih]
theorem ss_in {h : xH} {l : List (Nat × xE)} {a : Nat} {q0 c : xE} (hz : h[a]? = some q0) (hl : x_lk l a = some c) : (x_ss h l)[a]? = some c := by
  have ha : a < h.length := (List.getElem?_eq_some_iff.mp hz).1
  induction l with
  | nil => cases hl
  | cons q r ih =>
    unfold x_lk at hl
    unfold x_ss
    cases e : Nat.beq q.1 a with
    | true =>
      rw [e] at hl
      cases hl
      rw [Nat.eq_of_beq_eq_true e, List.getElem?_set_self (by rw [x_ss_len]; exact ha)]
    | false =>
      rw [e] at hl
      rw [List.getElem?_set_ne (Nat.ne_of_beq_eq_false e)]
      exact ih hl
theorem ss_out {h : xH} {l : List (Nat × xE)} {a : Nat} {c : xE} (hz : h[a]? = some c) (hl : x_lk l a = none) : (x_ss h l)[a]? = some c := by
  induction l with
  | nil => exact hz
  | cons q r ih =>
    unfold x_lk at hl
    unfold x_ss
    cases e : Nat.beq q.1 a with
    | true => rw [e] at hl; cases hl
    | false =>
      rw [e] at hl
      rw [List.getElem?_set_ne (Nat.ne_of_beq_eq_false e)]
      exact ih hl
section Sx
variable {d j k k1 a ci kf t n : Nat} {tab : List (Nat × Nat)} {lv : xL} {st : List Value} {h : xH} {l : List (Nat × xE)} {nc ns : Nat} {fs : List Value} {v : Value} {Z : Option Value → xH → Nat → Nat → Prop}
theorem wp_ov (hr : x_WP d j k lv st (x_ss h []) nc ns Z) : x_WP d j k lv st h nc ns Z := hr
theorem wp_lv {lv' : xL} (e : lv = lv') (hr : x_WP d j k lv' st h nc ns Z) : x_WP d j k lv st h nc ns Z := e ▸ hr
theorem wp_get (hc : (x_pr j).2 k = xi_getfield k1 tab) (hz : h[a]? = some (.inr (ci, fs))) (hl : x_look tab ci = some kf) (hv : fs[kf]? = some v) (hr : x_WP d j k1 lv (v :: st) h nc ns Z) : x_WP d j k lv (.ref a :: st) h nc ns Z := by
  refine wp_1 ?_ hr
  rw [hc]
  unfold xi_getfield
  dsimp only
  rw [hz]
  dsimp only
  rw [hl]
  dsimp only
  rw [hv]
theorem wp_put {ty : FieldType} (hc : (x_pr j).2 k = xi_putfield k1 ty tab) (hz : (x_ss h l)[a]? = some (.inr (ci, fs))) (hl : x_look tab ci = some kf) (hb : fits ty v = true) (hn : Nat.blt kf fs.length = true) (hr : x_WP d j k1 lv st (x_ss h ((a, .inr (ci, fs.set kf v)) :: l)) nc ns Z) : x_WP d j k lv (v :: .ref a :: st) (x_ss h l) nc ns Z := by
  refine wp_1 ?_ hr
  rw [hc]
  unfold xi_putfield
  dsimp only
  rw [hz]
  dsimp only
  rw [hl]
  dsimp only
  rw [if_pos ⟨hb, Nat.le_of_ble_eq_true hn⟩]
  rfl
theorem wp_aald {i : Int32} {A : List (Nat × Value)} (hc : (x_pr j).2 k = xi_aald k1 t) (hz : h[a]? = some (.inl (t, n, A))) (hi : decide (¬ (i < 0 ∨ n ≤ i.toNatClampNeg)) = true) (hv : x_rv A i.toNatClampNeg = v) (hr : x_WP d j k1 lv (v :: st) h nc ns Z) : x_WP d j k lv (.int i :: .ref a :: st) h nc ns Z := by
  subst hv
  refine wp_1 ?_ hr
  rw [hc]
  unfold xi_aald
  dsimp only
  rw [hz]
  dsimp only
  rw [if_pos ⟨rfl, of_decide_eq_true hi⟩]
theorem wp_alen {A : List (Nat × Value)} (hc : (x_pr j).2 k = xi_alen k1 t) (hz : h[a]? = some (.inl (t, n, A))) (hr : x_WP d j k1 lv (.int (Int32.ofNat n) :: st) h nc ns Z) : x_WP d j k lv (.ref a :: st) h nc ns Z := by
  refine wp_1 ?_ hr
  rw [hc]
  unfold xi_alen
  dsimp only
  rw [hz]
  dsimp only
  rw [if_pos rfl]
theorem wp_last {i : Int32} {x : Int64} {A : List (Nat × Value)} (hc : (x_pr j).2 k = xi_last k1 t) (hz : (x_ss h l)[a]? = some (.inl (t, n, A))) (hi : decide (¬ (i < 0 ∨ n ≤ i.toNatClampNeg)) = true) (hr : x_WP d j k1 lv st (x_ss h ((a, .inl (t, n, (i.toNatClampNeg, .long x) :: A)) :: l)) nc ns Z) : x_WP d j k lv (.long x :: .int i :: .ref a :: st) (x_ss h l) nc ns Z := by
  refine wp_1 ?_ hr
  rw [hc]
  unfold xi_last
  dsimp only
  rw [hz]
  dsimp only
  rw [if_pos ⟨rfl, of_decide_eq_true hi⟩]
  rfl
theorem wp_callV {j' : Nat} {rr : List Value} (hc : (x_pr j).2 k = xi_callV k1 n tab) (hst : st.drop n = .ref a :: rr) (hz : h[a]? = some (.inr (ci, fs))) (hl : x_look tab ci = some j') (hs : Nat.ble (rr.map fun v => v.category).sum 8 = true) (hf : x_fit (.ref a :: (st.take n).reverse) (x_pr j').1.2.2.1 = true) (hr : x_WP d j' 0 (lv_args 0 (.ref a :: (st.take n).reverse)) [] h 0 0 (fun v h1 mc ms => x_WP (d + 1) j k1 lv (v.toList ++ rr) h1 (nc + mc) (ns + ms) Z)) : x_WP (d + 1) j k lv st h nc ns Z := by
  refine wp_c ?_ hf hr
  rw [hc]
  exact lw_cv hst hz hl (Nat.le_of_ble_eq_true hs)
end Sx
end XEv
