section XWrap
def x_wsW (u : xPi) (y : xM) (hh : List (Nat × Nat × Nat × Nat)) : List Cond := .codeWith y.1 y.2.1 y.2.2.1 y.2.2.2 hh :: xp_G u
/-- a method with a table of its own that lets nothing out -/
theorem x_vxMet {l : Launch} {y : MethodName} {ws : List Cond} {rm : Room} {Pc : Array Value → State → Prop} {Qc : Array Value → State → Outcome → State → Prop} {mc ms : Nat} {free : Addr → Prop} (h : vx_Met l y ws rm Pc Qc (fun _ _ _ => False) mc ms free) : Met l y ws rm Pc Qc mc ms free := by
  intro p e ha hc hk s m args below hf happ hP hK
  obtain ⟨k, o, h1, h2, h3, hQ⟩ := h p e ha hc hk s m args below hf happ hP hK
  refine ⟨k, o, h1, h2, h3, ?_⟩
  rcases hQ with hQ | ⟨q, -, E, ce, L, hx, -⟩
  · exact hQ
  · exact hx.elim
theorem x_metW {u : xPi} {l : Launch} {y : xM} {hh : List (Nat × Nat × Nat × Nat)} {d : Nat} {as : List Value} {h h1 : xH} {r : Option Value} {mc ms : Nat} (hy : plainName y.1.cls = true) (hfit : x_fit as y.2.2.1 = true)
    (act : ∀ (p : Program) (e : Env) (s : State) (m : MethodId) (args : Array Value) (below : List Frame) (meth : Method) (c : Code), x_Ctx u y p s m args meth c →
      x_K u y.2.2.1 p l e (x_rm d mc ms) s m args below meth c (MQ below (x_Qc u r h1) args s mc ms (xp_A u)) 0 (lv_args 0 as) [] h 0 0) : Met l y.1 (x_wsW u y hh) (x_rm d mc ms) (x_Pc u as h) (x_Qc u r h1) mc ms (xp_A u) := by
  refine x_vxMet (vx_ofWH (cc := y.2.1) (maxL := y.2.2.1) (ret := y.2.2.2) (hh := hh) hy rfl ?_)
  intro p e s m args below meth c s₁ B hml hv
  obtain ⟨rfl, hE, hR⟩ := hv
  have hctx : x_Ctx u y p s m (as.map (x_v (xp_ad u))).toArray meth c := ⟨B.exec, B.bytes, hml, findClass_of_methodNamed B.named, (fun w hw => atoms_spec (ws := x_wsW u y hh) B.pre w (List.mem_cons_of_mem _ hw)), B.returns, B.notSynchronized, (name_of_methodNamed B.named B.method).1, hE⟩
  have hfit' : (lg_sl (as.map (x_v (xp_ad u)))).length ≤ y.2.2.1 := by rw [x_sl_len]; exact of_decide_eq_true hfit
  have hl := lv_entry (as.map (x_v (xp_ad u))) (n := y.2.2.1) hfit'
  rw [lg_entry_eq]
  exact vx_ret (act p e s m _ below meth c hctx _ s.heap [] (by rw [x_l_args]; exact hl) hR va_S.rf)
/-- a cell of which nothing is said -/
def x_op : xE := .inl (1000000, 0, [])
theorem x_RX_op {u : xPi} {h : xH} {H : Heap} (ho : (xp_ty u)[1000000]? = none) (hl : h.length < xT) (hR : x_RX u h H) (hz : H.size ≤ xp_b u + h.length + 1) : x_R u h H ∨ x_R u (h ++ [x_op]) H := by
  obtain ⟨h1, h2⟩ := hR
  by_cases e : H.size = xp_b u + h.length
  · exact Or.inl ⟨e, Nat.le_of_lt hl, h2⟩
  · refine Or.inr ⟨by rw [List.length_append]; simp; omega, by rw [List.length_append]; simp; omega, fun i q hi hv => ?_⟩
    by_cases e2 : i < h.length
    · rw [List.getElem?_append_left e2] at hi
      exact h2 i q hi hv
    · rw [List.getElem?_append_right (by omega)] at hi
      have hz : i - h.length < 1 := (List.getElem?_eq_some_iff.mp hi).1
      rw [show i - h.length = 0 by omega] at hi
      cases hi
      exact absurd ho hv
section CallT
variable {u : xPi} {mt : Nat → xM} {y : xM} {p : Program} {l : Launch} {e : Env} {R : Room} {s : State} {m : MethodId} {args : Array Value} {below : List Frame} {meth : Method} {c : Code} {Q : State → Prop}
set_option maxHeartbeats 1000000 in
/-- a call that throws, as the first thing that makes a cell -/
theorem x_callT (hG : ∀ w ∈ xp_G u, goodWord w = true) (hc : x_Ctx u y p s m args meth c) (hZ : x_XZ u s) (ho : (xp_ty u)[1000000]? = none) {idx n pc j a : Nat} {lv : xL} {st r : List Value} {h : xH} {z : Nat × List Value} {E C : String} {T : u_T} {N : Nat} (hst : st.drop n = .ref a :: r) (hz : h[a]? = some (.inr z)) (hroom : (r.map fun v => v.category).sum ≤ 8) (hlx : h.length < xT)
    (g1 : (xp_cl u)[z.1]? = some (C, T, N)) (hj : x_jok u (mt j) n) (g3 : Cond.instanceMethod (mt j).1 ∈ xp_G u) (gs : Cond.selects C (mt j).1 (mt j).1 ∈ xp_G u) (gl : Cond.methodLink y.1.cls idx (mt j).1 ∈ xp_G u)
    (hM : x_MetX u l (mt j) (.ref a :: (st.take n).reverse) h E) (hf1 : 13 ≤ R.frames) (hf2 : 832 ≤ R.locals) (hc1 : 1 ≤ R.cells) (hc2 : 6 ≤ R.slots) (hd : decode y.2.1 pc = .ok (.invokevirtual idx, 3))
    (kx : ∀ (ls : Array Slot) (H1 : Heap) (locs1 : List Loc) (q : Addr) (ce : Cell), lv_has ls y.2.2.1 (x_l (xp_ad u) lv) → (x_R u h H1 ∨ x_R u (h ++ [x_op]) H1) → va_S (xp_A u) s.heap H1 locs1 → H1[q]? = some ce → ce.vm = .none → s.vm.findClass E = some ce.cls → vx_W p l e R s m args below meth c H1 locs1 1 6 Q (F0 m pc ls (r.map (x_v (xp_ad u)))) q) :
    x_K u y.2.2.1 p l e R s m args below meth c Q pc lv st h 0 0 := by
  intro ls H locs hl hR hS
  obtain ⟨j1, j2, j3, j4, j5, j6⟩ := hj
  have hE := hc.2.2.2.2.2.2.2.2
  have hts := hc.2.2.2.2.1
  have hrl : 8 + ((mt j).2.2.1 + 11) + x_rmX.locals ≤ R.locals := by
    show 8 + ((mt j).2.2.1 + 11) + 768 ≤ R.locals
    omega
  obtain ⟨hst1, hst2⟩ := x_split hst
  have hlen : ((st.take n).reverse.map (x_v (xp_ad u))).length = n := by rw [List.length_map, List.length_reverse]; exact hst2
  have hrc := va_recv (q0 := 0) hE.2.2.2.2.1 (x_P1 hR hz trivial) g1 rfl
  have hstk : st.map (x_v (xp_ad u)) = (((st.take n).reverse.map (x_v (xp_ad u))).reverse) ++ .ref (xp_ad u a) :: r.map (x_v (xp_ad u)) := by
    conv => lhs; rw [hst1]
    simp [x_v]
  have hroom' : 2 * (F0 m pc ls (st.map (x_v (xp_ad u)))).monitorRoom + ((r.map (x_v (xp_ad u))).map fun v => v.category).sum ≤ 8 := by
    refine lv_room ?_
    rw [List.map_map]
    rw [show (fun v : Value => v.category) ∘ x_v (xp_ad u) = (fun v : Value => v.category) from funext (fun v => x_cat _ v)]
    exact hroom
  have hrun := vx_runV (meth := meth) (l := l) (e := e) (below := below) (R := R) (locs := locs) (cells := 0) (slots := 0) (As := (st.take n).reverse.map (x_v (xp_ad u))) (g := F0 m pc ls (st.map (x_v (xp_ad u)))) ⟨hc.1, hc.2.1, hc.2.2.1, hc.2.2.2.1, hts⟩ hM ⟨callB_of n hts (x_good hG j1) rfl rfl rfl (hts _ j2) (hts _ gl) ⟨j3, j4, j5⟩ ⟨hf1, hrl⟩, hts _ g3, hts _ gs⟩ ⟨x_blindX, hrc, fun U hU hW => ⟨rfl, ⟨x_Env_moved hS hU hW hE, x_XZ_moved hS hU hW hZ⟩, by rw [hU]; exact hR⟩⟩ rfl hlen hl.1 hstk hroom' hd ⟨by omega, by omega⟩
  intro T0 hT X
  rcases hrun T0 hT X with ⟨v, st₀, t, T', L, -, -, -, -, -, hq, -⟩ | ⟨q, st₀, t, T', L, E', ce, h0, X', hL, e1, e2, ⟨rfl, hRX, hF⟩, q1, q2, q3, hsteps⟩
  · exact hq.elim
  · have hbd : T'.heap.size ≤ xp_b u + h.length + 1 := by
      have h1 : T'.heap.size ≤ s.heap.size + (0 + 1) := X'.same.2.2.1
      have h2 := hS.1
      have h3 := hR.1
      omega
    have hS1 : va_S (xp_A u) s.heap T'.heap (locs ++ L) := by
      obtain ⟨hF1, hF2⟩ := hF
      rw [h0] at hF1 hF2
      refine ⟨Nat.le_trans hS.1 (by rw [e1]; exact hF1), fun q h1 h2 => by rw [e1, hF2 q (Nat.lt_of_lt_of_le h1 hS.1) h2]; exact hS.2.1 q h1 h2, fun q hq => ?_⟩
      rcases List.mem_append.mp hq with h | h
      · exact hS.2.2 q h
      · exact hL q h
    obtain ⟨t2, a1, b1⟩ := kx ls T'.heap (locs ++ L) q ce hl (x_RX_op ho hlx (by rw [e1]; exact hRX) hbd) hS1 (by rw [e1]; exact q1) q2 q3 T' rfl X'
    exact ⟨t2, hsteps.trans a1, b1⟩
end CallT
end XWrap
