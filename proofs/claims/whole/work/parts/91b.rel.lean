section XRel
abbrev x_P9 : Type := Nat → Nat → Nat → xL → List Value → xH → Nat → Nat → Option Value × xH × Nat × Nat → Prop
/-- P holds of what goes on, answers, calls, forgets locals -/
def x_Cl (P : x_P9) : Prop :=
  (∀ (d j k : Nat) (lv : xL) (st : List Value) (h : xH) (nc ns : Nat) (g : xG) (r : Option Value × xH × Nat × Nat), (x_pr j).2 k lv st h nc ns = some (.inl g) → P d j g.1 g.2.1 g.2.2.1 g.2.2.2.1 g.2.2.2.2.1 g.2.2.2.2.2 r → P d j k lv st h nc ns r) ∧
  (∀ (d j k : Nat) (lv : xL) (st : List Value) (h : xH) (nc ns : Nat) (r : Option Value × xH × Nat × Nat), (x_pr j).2 k lv st h nc ns = some (.inr (.inl r)) → P d j k lv st h nc ns r) ∧
  (∀ (d j k j' : Nat) (as : List Value) (g : xG) (lv : xL) (st : List Value) (h : xH) (nc ns : Nat) (r1 r : Option Value × xH × Nat × Nat), (x_pr j).2 k lv st h nc ns = some (.inr (.inr (j', as, g))) → x_fit as (x_pr j').1.2.2.1 = true → P d j' 0 (lv_args 0 as) [] g.2.2.2.1 0 0 r1 → P (d + 1) j g.1 g.2.1 (r1.1.toList ++ g.2.2.1) r1.2.1 (g.2.2.2.2.1 + r1.2.2.1) (g.2.2.2.2.2 + r1.2.2.2) r → P (d + 1) j k lv st h nc ns r) ∧
  (∀ (d j k : Nat) (lv lv' : xL) (st : List Value) (h : xH) (nc ns : Nat) (r : Option Value × xH × Nat × Nat), (∀ q ∈ lv', q ∈ lv) → P d j k lv' st h nc ns r → P d j k lv st h nc ns r)
/-- a run; locals may be forgotten on the way -/
def x_E : x_P9 := fun d j k lv st h nc ns r => ∀ P : x_P9, x_Cl P → P d j k lv st h nc ns r
section Con
variable {d j k j' : Nat} {as : List Value} {g : xG} {lv lv' : xL} {st : List Value} {h : xH} {nc ns : Nat} {r1 r : Option Value × xH × Nat × Nat}
theorem xe_go (hs : (x_pr j).2 k lv st h nc ns = some (.inl g)) (hr : x_E d j g.1 g.2.1 g.2.2.1 g.2.2.2.1 g.2.2.2.2.1 g.2.2.2.2.2 r) : x_E d j k lv st h nc ns r := fun P hP => hP.1 d j k lv st h nc ns g r hs (hr P hP)
theorem xe_ret (hs : (x_pr j).2 k lv st h nc ns = some (.inr (.inl r))) : x_E d j k lv st h nc ns r := fun P hP => hP.2.1 d j k lv st h nc ns r hs
theorem xe_call (hs : (x_pr j).2 k lv st h nc ns = some (.inr (.inr (j', as, g)))) (hf : x_fit as (x_pr j').1.2.2.1 = true) (hc : x_E d j' 0 (lv_args 0 as) [] g.2.2.2.1 0 0 r1) (hr : x_E (d + 1) j g.1 g.2.1 (r1.1.toList ++ g.2.2.1) r1.2.1 (g.2.2.2.2.1 + r1.2.2.1) (g.2.2.2.2.2 + r1.2.2.2) r) : x_E (d + 1) j k lv st h nc ns r := fun P hP => hP.2.2.1 d j k j' as g lv st h nc ns r1 r hs hf (hc P hP) (hr P hP)
theorem xe_weak (hs : ∀ q ∈ lv', q ∈ lv) (hr : x_E d j k lv' st h nc ns r) : x_E d j k lv st h nc ns r := fun P hP => hP.2.2.2 d j k lv lv' st h nc ns r hs (hr P hP)
end Con
theorem xe_K {u : xPi} {nL : Nat} {p : Program} {l : Launch} {e : Env} {R : Room} {s : State} {m : MethodId} {args : Array Value} {below : List Frame} {meth : Method} {c : Code} {Q : State → Prop} {pc : Nat} {lv lv' : xL} {st : List Value} {h : xH} {nc ns : Nat} (hs : ∀ q ∈ lv', q ∈ lv) (hk : x_K u nL p l e R s m args below meth c Q pc lv' st h nc ns) : x_K u nL p l e R s m args below meth c Q pc lv st h nc ns := by
  intro ls H locs hl hR hS
  refine hk ls H locs ⟨hl.1, hl.2.1, fun q hq => hl.2.2 q ?_⟩ hR hS
  obtain ⟨q', h1, rfl⟩ := List.mem_map.mp hq
  exact List.mem_map.mpr ⟨q', hs q' h1, rfl⟩
theorem xe_act {u : xPi} {l : Launch} (hok : ∀ (j k : Nat), x_ok u (fun j => (x_pr j).1) (x_pr j).1 x_id k ((x_pr j).2 k)) (hpl : ∀ j, plainName (x_pr j).1.1.cls = true ∨ (x_pr j).2 0 = x_no)
    {d j k : Nat} {lv : xL} {st : List Value} {h : xH} {nc ns : Nat} {r : Option Value × xH × Nat × Nat} (he : x_E d j k lv st h nc ns r) :
      (x_pr j).2 k ≠ x_no ∧ ∀ (p : Program) (e : Env) (s : State) (m : MethodId) (args : Array Value) (below : List Frame) (meth : Method) (c : Code), x_Ctx u (x_pr j).1 p s m args meth c →
        nc ≤ r.2.2.1 ∧ ns ≤ r.2.2.2 ∧ x_K u (x_pr j).1.2.2.1 p l e (x_rm d r.2.2.1 r.2.2.2) s m args below meth c (MQ below (x_Qc u r.1 r.2.1) args s r.2.2.1 r.2.2.2 (xp_A u)) k lv st h nc ns := by
  refine he (fun d j k lv st h nc ns r => (x_pr j).2 k ≠ x_no ∧ ∀ (p : Program) (e : Env) (s : State) (m : MethodId) (args : Array Value) (below : List Frame) (meth : Method) (c : Code), x_Ctx u (x_pr j).1 p s m args meth c →
        nc ≤ r.2.2.1 ∧ ns ≤ r.2.2.2 ∧ x_K u (x_pr j).1.2.2.1 p l e (x_rm d r.2.2.1 r.2.2.2) s m args below meth c (MQ below (x_Qc u r.1 r.2.1) args s r.2.2.1 r.2.2.2 (xp_A u)) k lv st h nc ns) ⟨?_, ?_, ?_, ?_⟩
  · intro d j k lv st h nc ns g r hs ih
    refine ⟨fun e => (by rw [e] at hs; cases hs), ?_⟩
    intro p e s m args below meth c hctx
    have hk := hok j k p l e (x_rm d r.2.2.1 r.2.2.2) s m args below meth c hctx (Nat.le_add_left 1 d) (by show 64 ≤ 64 * (d + 1); omega) lv st h nc ns
    obtain ⟨a1, a2, a3⟩ := (hk _ hs).1 g rfl
    obtain ⟨b1, b2, b3⟩ := ih.2 p e s m args below meth c hctx
    exact ⟨Nat.le_trans a1 b1, Nat.le_trans a2 b2, a3 _ b1 b2 b3⟩
  · intro d j k lv st h nc ns r hs
    refine ⟨fun e => (by rw [e] at hs; cases hs), ?_⟩
    intro p e s m args below meth c hctx
    have hk := hok j k p l e (x_rm d r.2.2.1 r.2.2.2) s m args below meth c hctx (Nat.le_add_left 1 d) (by show 64 ≤ 64 * (d + 1); omega) lv st h nc ns
    obtain ⟨a1, a2, a3⟩ := (hk _ hs).2.1 r rfl
    refine ⟨Nat.le_of_eq a1.symm, Nat.le_of_eq a2.symm, ?_⟩
    have key := a3 (x_Qc u r.1 r.2.1) (fun t h2 h3 => ⟨⟨rfl, h2⟩, h3⟩)
    rw [← a1, ← a2] at key
    rw [← a1, ← a2]
    exact key
  · intro d j k j' as g lv st h nc ns r1 r hs hf ih1 ih2
    refine ⟨fun e => (by rw [e] at hs; cases hs), ?_⟩
    intro p e s m args below meth c hctx
    have hk := hok j k p l e (x_rm (d + 1) r.2.2.1 r.2.2.2) s m args below meth c hctx (Nat.le_add_left 1 (d + 1)) (by show 64 ≤ 64 * (d + 1 + 1); omega) lv st h nc ns
    obtain ⟨a1, a2, a3⟩ := (hk _ hs).2.2 j' as g rfl
    obtain ⟨b1, b2, b3⟩ := ih2.2 p e s m args below meth c hctx
    have hpl' : plainName (x_pr j').1.1.cls = true := (hpl j').elim id (fun q => absurd q ih1.1)
    have hmet : x_Met u l (x_pr j').1 d as g.2.2.2.1 r1.1 r1.2.1 r1.2.2.1 r1.2.2.2 := x_met_of (n := 0) hpl' hf (fun p e s m args below meth c hc => (ih1.2 p e s m args below meth c hc).2.2)
    exact ⟨by omega, by omega, a3 _ d r1.1 r1.2.1 r1.2.2.1 r1.2.2.2 hmet (Nat.le_refl _) (Nat.le_refl _) b1 b2 b3⟩
  · intro d j k lv lv' st h nc ns r hs ih
    refine ⟨ih.1, ?_⟩
    intro p e s m args below meth c hctx
    obtain ⟨b1, b2, b3⟩ := ih.2 p e s m args below meth c hctx
    exact ⟨b1, b2, xe_K hs b3⟩
theorem xe_met {u : xPi} {l : Launch} (hok : ∀ (j k : Nat), x_ok u (fun j => (x_pr j).1) (x_pr j).1 x_id k ((x_pr j).2 k)) (hpl : ∀ j, plainName (x_pr j).1.1.cls = true ∨ (x_pr j).2 0 = x_no)
    {d j : Nat} {as : List Value} {h h1 : xH} {r : Option Value} {mc ms : Nat} (hfit : x_fit as (x_pr j).1.2.2.1 = true) (hr : x_E d j 0 (lv_args 0 as) [] h 0 0 (r, h1, mc, ms)) : x_Met u l (x_pr j).1 d as h r h1 mc ms :=
  x_met_of (n := 0) ((hpl j).elim id (fun q => absurd q (xe_act (l := l) hok hpl hr).1)) hfit (fun p e s m args below meth c hc => ((xe_act hok hpl hr).2 p e s m args below meth c hc).2.2)
theorem xe_run {n : Nat} : ∀ {d j k : Nat} {lv : xL} {st : List Value} {h : xH} {nc ns : Nat} {r : Option Value × xH × Nat × Nat}, x_run x_pr n d j k lv st h nc ns = some r → x_E d j k lv st h nc ns r := by
  induction n with
  | zero => intro d j k lv st h nc ns r hr; rw [x_run_0] at hr; cases hr
  | succ n ih =>
    intro d j k lv st h nc ns r hr
    rw [x_run_s] at hr
    unfold x_step at hr
    split at hr
    · cases hr
    · rename_i g hg
      exact xe_go hg (ih hr)
    · rename_i r' hg
      cases hr
      exact xe_ret hg
    · rename_i z hg
      split at hr
      · cases hr
      · split at hr
        · cases hr
        · rename_i hfit
          split at hr
          · cases hr
          · rename_i r2 hr2
            exact xe_call hg hfit (ih hr2) (ih hr)
/-- from a place, an answer of which Z holds -/
def x_W (d j k : Nat) (lv : xL) (st : List Value) (h : xH) (nc ns : Nat) (Z : Option Value → xH → Nat → Nat → Prop) : Prop := ∃ (v : Option Value) (h' : xH) (mc ms : Nat), x_E d j k lv st h nc ns (v, h', mc, ms) ∧ Z v h' mc ms
section Rules
variable {d j k k1 kt : Nat} {lv lv' : xL} {st : List Value} {h : xH} {nc ns : Nat} {Z : Option Value → xH → Nat → Nat → Prop}
theorem q_1 {k' nc' ns' : Nat} {st' : List Value} {h' : xH} (hs : (x_pr j).2 k lv st h nc ns = some (.inl (k', lv', st', h', nc', ns'))) (hr : x_W d j k' lv' st' h' nc' ns' Z) : x_W d j k lv st h nc ns Z := by
  obtain ⟨v, h1, mc, ms, q1, q2⟩ := hr
  exact ⟨v, h1, mc, ms, xe_go hs q1, q2⟩
theorem q_r {h' : xH} {mc ms : Nat} {v : Option Value} (hs : (x_pr j).2 k lv st h nc ns = some (.inr (.inl (v, h', mc, ms)))) (hz : Z v h' mc ms) : x_W d j k lv st h nc ns Z := ⟨v, h', mc, ms, xe_ret hs, hz⟩
theorem q_c {j' k' nc' ns' : Nat} {as st' : List Value} {h' : xH} (hs : (x_pr j).2 k lv st h nc ns = some (.inr (.inr (j', as, (k', lv', st', h', nc', ns'))))) (hf : x_fit as (x_pr j').1.2.2.1 = true) (hc : x_W d j' 0 (lv_args 0 as) [] h' 0 0 (fun v h1 mc ms => x_W (d + 1) j k' lv' (v.toList ++ st') h1 (nc' + mc) (ns' + ms) Z)) : x_W (d + 1) j k lv st h nc ns Z := by
  obtain ⟨v, h1, mc, ms, e1, v2, h2, mc2, ms2, e2, hz⟩ := hc
  exact ⟨v2, h2, mc2, ms2, xe_call hs hf e1 e2, hz⟩
theorem q_w (hs : ∀ q ∈ lv', q ∈ lv) (hr : x_W d j k lv' st h nc ns Z) : x_W d j k lv st h nc ns Z := by
  obtain ⟨v, h1, mc, ms, q1, q2⟩ := hr
  exact ⟨v, h1, mc, ms, xe_weak hs q1, q2⟩
theorem q_m {Y : Option Value → xH → Nat → Nat → Prop} (hw : x_W d j k lv st h nc ns Y) (hz : ∀ v h' mc ms, Y v h' mc ms → Z v h' mc ms) : x_W d j k lv st h nc ns Z := by
  obtain ⟨v, h1, mc, ms, q1, q2⟩ := hw
  exact ⟨v, h1, mc, ms, q1, hz _ _ _ _ q2⟩
theorem q_pc {k' : Nat} (hk : k = k') (hr : x_W d j k' lv st h nc ns Z) : x_W d j k lv st h nc ns Z := hk ▸ hr
theorem q_lv (hk : lv = lv') (hr : x_W d j k lv' st h nc ns Z) : x_W d j k lv st h nc ns Z := hk ▸ hr
theorem sb_n : ∀ q ∈ ([] : xL), q ∈ lv := fun _ h => absurd h List.not_mem_nil
theorem sb_c {i : Nat} {v : Value} (hg : x_get lv i = some v) (hs : ∀ q ∈ lv', q ∈ lv) : ∀ q ∈ (i, v) :: lv', q ∈ lv := List.forall_mem_cons.mpr ⟨x_get_mem hg, hs⟩
theorem sb_h {i : Nat} {v : Value} (hs : ∀ q ∈ lv', q ∈ x_st1 lv i v) : ∀ q ∈ (i, v) :: lv', q ∈ x_st1 lv i v := List.forall_mem_cons.mpr ⟨List.mem_cons_self, hs⟩
theorem sb_k {i n : Nat} {v w : Value} (hg : x_get lv n = some w) (hn : (n == i || n + 1 == i) = false) (hs : ∀ q ∈ lv', q ∈ x_st1 lv i v) : ∀ q ∈ (n, w) :: lv', q ∈ x_st1 lv i v := by
  refine List.forall_mem_cons.mpr ⟨List.mem_cons_of_mem _ (List.mem_filter.mpr ⟨x_get_mem hg, ?_⟩), hs⟩
  simp only [Bool.or_eq_false_iff] at hn
  simp [hn.1, hn.2]
theorem sb_k1 {n : Nat} {v w : Value} (hg : x_get lv n = some w) (hw : w.category = 1) (hs : ∀ q ∈ lv', q ∈ x_st1 lv (n + 1) v) : ∀ q ∈ (n, w) :: lv', q ∈ x_st1 lv (n + 1) v := by
  refine List.forall_mem_cons.mpr ⟨List.mem_cons_of_mem _ (List.mem_filter.mpr ⟨x_get_mem hg, ?_⟩), hs⟩
  simp [hw]
theorem sc_h {i : Nat} {v : Value} (hs : ∀ q ∈ lv', q ∈ x_st2 lv i v) : ∀ q ∈ (i, v) :: lv', q ∈ x_st2 lv i v := List.forall_mem_cons.mpr ⟨List.mem_cons_self, hs⟩
theorem sc_k {i n : Nat} {v w : Value} (hg : x_get lv n = some w) (hn : (n == i || n == i + 1 || n + 1 == i) = false) (hs : ∀ q ∈ lv', q ∈ x_st2 lv i v) : ∀ q ∈ (n, w) :: lv', q ∈ x_st2 lv i v := by
  refine List.forall_mem_cons.mpr ⟨List.mem_cons_of_mem _ (List.mem_filter.mpr ⟨x_get_mem hg, ?_⟩), hs⟩
  simp only [Bool.or_eq_false_iff] at hn
  simp [hn.1.1, hn.1.2, hn.2]
theorem sc_k1 {n : Nat} {v w : Value} (hg : x_get lv n = some w) (hw : w.category = 1) (hs : ∀ q ∈ lv', q ∈ x_st2 lv (n + 1) v) : ∀ q ∈ (n, w) :: lv', q ∈ x_st2 lv (n + 1) v := by
  refine List.forall_mem_cons.mpr ⟨List.mem_cons_of_mem _ (List.mem_filter.mpr ⟨x_get_mem hg, ?_⟩), hs⟩
  simp [hw]
  omega
theorem q_ist {i nL : Nat} {x : Int32} (hc : (x_pr j).2 k = xi_istore k1 i nL) (hi : Nat.blt i nL = true) (hs : ∀ q ∈ lv', q ∈ x_st1 lv i (.int x)) (hr : x_W d j k1 lv' st h nc ns Z) : x_W d j k lv (.int x :: st) h nc ns Z := by
  refine q_1 ?_ (q_w hs hr)
  rw [hc]
  unfold xi_istore
  dsimp only
  rw [if_pos (show _ < _ from Nat.le_of_ble_eq_true hi)]
theorem q_lst {i nL : Nat} {x : Int64} (hc : (x_pr j).2 k = xi_lstore k1 i nL) (hi : Nat.blt (i + 1) nL = true) (hs : ∀ q ∈ lv', q ∈ x_st2 lv i (.long x)) (hr : x_W d j k1 lv' st h nc ns Z) : x_W d j k lv (.long x :: st) h nc ns Z := by
  refine q_1 ?_ (q_w hs hr)
  rw [hc]
  unfold xi_lstore
  dsimp only
  rw [if_pos (show _ < _ from Nat.le_of_ble_eq_true hi)]
theorem q_inc {i nL : Nat} {n x : Int32} (hc : (x_pr j).2 k = xi_iinc k1 i nL n) (hg : x_get lv i = some (.int x)) (hi : Nat.blt i nL = true) (hs : ∀ q ∈ lv', q ∈ x_st1 lv i (.int (x + n))) (hr : x_W d j k1 lv' st h nc ns Z) : x_W d j k lv st h nc ns Z := by
  refine q_1 ?_ (q_w hs hr)
  rw [hc]
  unfold xi_iinc
  rw [hg]
  dsimp only
  rw [if_pos (show _ < _ from Nat.le_of_ble_eq_true hi)]
end Rules
end XRel
