section XHelp
/-- a helper that catches what its callee throws: it answers r; the cells are as before, or one more of which nothing is said -/
def x_QcD (u : xPi) (r : Int32) (h : xH) : Array Value → State → Outcome → State → Prop := fun _ st oc t => oc = .returned (some (.int r)) ∧ (x_R u h t.heap ∨ x_R u (h ++ [x_op]) t.heap) ∧ va_F (xp_A u) st t
def x_rmH : Room := { frames := 13, cells := 1, slots := 6, locals := 832 }
def x_MetD (u : xPi) (l : Launch) (y : xM) (hh : List (Nat × Nat × Nat × Nat)) (as : List Value) (r : Int32) (h : xH) : Prop := Met l y.1 (x_wsW u y hh) x_rmH (x_PcX u as h) (x_QcD u r h) 1 6 (xp_A u)
/-- what a handler does: it puts the thrown thing away and comes to its answer -/
def x_tail (y : xM) (pch pcr : Nat) (k : Int32) : Prop := ∀ (p : Program) (l : Launch) (e : Env) (R : Room) (s : State) (m : MethodId) (args : Array Value) (below : List Frame) (meth : Method) (c : Code) (H : Heap) (locs : List Loc) (cells slots : Nat) (Q : State → Prop) (ls : Array Slot) (q : Addr),
  p.tables.exec = Jvm.exec → c.code = y.2.1 → lv_has ls y.2.2.1 [] → (∀ ls' : Array Slot, W p l e R s m args below meth c H locs cells slots Q (F0 m pcr ls' [.int k])) → W p l e R s m args below meth c H locs cells slots Q (F0 m pch ls [.ref q])
theorem x_tail2 {y : xM} {pch i : Nat} {n : Int} {k : Int32} (hv : Int32.ofInt n = k) (hi : i < y.2.2.1) (d0 : decode y.2.1 pch = .ok (.astore i, 2)) (d1 : decode y.2.1 (pch + 2) = .ok (.iconst n, 1)) : x_tail y pch (pch + 3) k := by
  intro p l e R s m args below meth c H locs cells slots Q ls q hx hb hl hk
  refine lv_astore hx hb d0 hl hi rfl (fun ls' _ => ?_)
  exact lv_iconst hx hb d1 hv (hk ls')
theorem x_tail1 {y : xM} {pch i : Nat} {j : Fin 4} {n : Int} {k : Int32} (hv : Int32.ofInt n = k) (hij : (j : Nat) = i) (hi : i < y.2.2.1) (d0 : decode y.2.1 pch = .ok (.astore_n j, 1)) (d1 : decode y.2.1 (pch + 1) = .ok (.iconst n, 1)) : x_tail y pch (pch + 2) k := by
  intro p l e R s m args below meth c H locs cells slots Q ls q hx hb hl hk
  refine lv_astore_n hx hb d0 hij hl hi rfl (fun ls' _ => ?_)
  exact lv_iconst hx hb d1 hv (hk ls')
set_option maxHeartbeats 1000000 in
theorem x_metD {u : xPi} {pr : xPr} {y : xM} {cd : Nat → xI} {l : Launch} {hh : List (Nat × Nat × Nat × Nat)} (hpr : ∀ (j k : Nat), x_ok u (fun j => (pr j).1) (pr j).1 x_id k ((pr j).2 k)) (hpl : ∀ j, plainName (pr j).1.1.cls = true ∨ (pr j).2 0 = x_no) (hok : ∀ k, x_ok u (fun j => (pr j).1) y x_id k (cd k)) (hG : ∀ w ∈ xp_G u, goodWord w = true) (ho : (xp_ty u)[1000000]? = none) (hy : plainName y.1.cls = true) (hret : y.2.2.2 = some .int)
    {as st r0 : List Value} {h : xH} {fl n pc0 pcr idx na j a : Nat} {lv : xL} {z : Nat × List Value} {E C name : String} {T : u_T} {N : Nat} {k : Int32} (hfit : x_fit as y.2.2.1 = true) (hup : x_upto pr cd fl 8 pc0 n (0, lv_args 0 as, [], h, 0, 0) = some (pc0, lv, st, h, 0, 0))
    (hst : st.drop na = .ref a :: r0) (hz : h[a]? = some (.inr z)) (hroom : (r0.map fun v => v.category).sum ≤ 8) (hlx : h.length < xT) (g1 : (xp_cl u)[z.1]? = some (C, T, N)) (hj : x_jok u (pr j).1 na) (g3 : Cond.instanceMethod (pr j).1.1 ∈ xp_G u) (gs : Cond.selects C (pr j).1.1 (pr j).1.1 ∈ xp_G u) (gl : Cond.methodLink y.1.cls idx (pr j).1.1 ∈ xp_G u)
    (hM : x_MetX u l (pr j).1 (.ref a :: (st.take na).reverse) h E) (hd : decode y.2.1 pc0 = .ok (.invokevirtual idx, 3))
    (pre : List ExceptionTableEntry) (x : ExceptionTableEntry) (suf : List ExceptionTableEntry) (hsplit : tableOf hh = pre ++ x :: suf)
    (hpass : ∀ z ∈ pre, covers z pc0 = false ∨ (z.catchType ≠ 0 ∧ ∃ nm : String, Cond.classLink y.1.cls z.catchType nm ∈ xp_G u ∧ (E, nm) ∈ xp_x u)) (hx : covers x pc0 = true) (h0 : x.catchType ≠ 0) (hlink : Cond.classLink y.1.cls x.catchType name ∈ xp_G u) (hcast : Cond.castable E name ∈ xp_n u)
    (ht : x_tail y x.handlerPc pcr k) (dr : decode y.2.1 pcr = .ok (.ireturn, 1)) : x_MetD u l y hh as k h := by
  refine x_vxMet (vx_ofWH (cc := y.2.1) (maxL := y.2.2.1) (ret := y.2.2.2) (hh := hh) hy rfl ?_)
  intro p e s m args below meth c s₁ B hml hv
  obtain ⟨rfl, ⟨hE, hZ⟩, hR⟩ := hv
  have hctx : x_Ctx u y p s m (as.map (x_v (xp_ad u))).toArray meth c := ⟨B.exec, B.bytes, hml, findClass_of_methodNamed B.named, (fun w hw => atoms_spec (ws := x_wsW u y hh) B.pre w (List.mem_cons_of_mem _ hw)), B.returns, B.notSynchronized, (name_of_methodNamed B.named B.method).1, hE⟩
  have hw0 : (Cond.codeWith y.1 y.2.1 y.2.2.1 y.2.2.2 hh).before (as.map (x_v (xp_ad u))).toArray s = true := atoms_spec (ws := x_wsW u y hh) B.pre _ List.mem_cons_self
  have htab : c.exceptionTable.toList = tableOf hh := vx_table (x := y.1) B hw0
  have hfit' : (lg_sl (as.map (x_v (xp_ad u)))).length ≤ y.2.2.1 := by rw [x_sl_len]; exact of_decide_eq_true hfit
  have hl1 := lv_entry (as.map (x_v (xp_ad u))) (n := y.2.2.1) hfit'
  rw [lg_entry_eq]
  have hK := (x_upto_ok (l := l) (e := e) (below := below) (R := x_rmH) (Q := vx_MQ below (x_QcD u k h) (fun _ _ _ => False) (as.map (x_v (xp_ad u))).toArray s 1 6 (xp_A u)) hpr hpl hok hctx (by decide) (by decide) n hup).2.2 (Nat.zero_le _) (Nat.zero_le _)
  refine hK ?_ _ s.heap [] (by rw [x_l_args]; exact hl1) hR va_S.rf
  refine x_callT (R := x_rmH) (mt := fun j => (pr j).1) hG hctx hZ ho hst hz hroom hlx g1 hj g3 gs gl hM (by decide) (by decide) (by decide) (by decide) hd ?_
  intro ls H1 locs1 q ce hl2 hR2 hS2 hq1 hq2 hq3
  have hword : ∀ w ∈ xp_n u, w.before (as.map (x_v (xp_ad u))).toArray s = true := fun w hw => va_Nw.use (x_nest_on (hE.2.2.1 w hw).1) (hE.2.2.1 w hw).2
  refine x_catch hctx.2.2.2.1 pre x suf (htab.trans hsplit) (fun z hz => ?_) hx h0 (hctx.2.2.2.2.1 _ hlink) (hword _ hcast) hq1 hq2 hq3 ?_
  · rcases hpass z hz with h1 | ⟨h1, nm, h2, h3⟩
    · exact Or.inl h1
    · exact Or.inr ⟨h1, nm, hctx.2.2.2.2.1 _ h2, hE.2.2.2.2.2.2.1 _ h3⟩
  refine ht p l e x_rmH s m _ below meth c H1 locs1 1 6 _ ls q hctx.1 hctx.2.1 ⟨hl2.1, hl2.2.1, fun _ h => nomatch h⟩ (fun ls' => ?_)
  refine vx_ret ?_
  exact W.iret hctx.1 hctx.2.1 (by rw [hctx.2.2.2.2.2.1]; exact hret) (fun t ht2 hW => ⟨rfl, by rw [ht2]; exact hR2, hS2.F ht2⟩) hS2.2.2 dr (hlocks := hctx.2.2.2.2.2.2.1)
section CallW
variable {u : xPi} {y yk : xM} {hh : List (Nat × Nat × Nat × Nat)} {p : Program} {l : Launch} {e : Env} {R : Room} {s : State} {m : MethodId} {args : Array Value} {below : List Frame} {meth : Method} {c : Code} {Q : State → Prop}
theorem x_goodW (hG : ∀ w ∈ xp_G u, goodWord w = true) {own : String} {idx : Nat} (hcw : Cond.codeWith yk.1 yk.2.1 yk.2.2.1 yk.2.2.2 hh ∈ xp_G u) (hini : Cond.initialized yk.1.cls ∈ xp_G u) (hstat : Cond.static yk.1 ∈ xp_G u) (hlk : Cond.methodLink own idx yk.1 ∈ xp_G u) : GoodIn (xp_G u) (va_wsS own idx yk.1 (x_wsW u yk hh)) := by
  intro w hw
  have hin : w ∈ xp_G u := by
    unfold va_wsS at hw
    rcases List.mem_append.mp hw with hw | hw
    · simp only [List.mem_cons, List.not_mem_nil, or_false] at hw
      rcases hw with rfl | rfl | rfl
      · exact hlk
      · exact hstat
      · exact hini
    · rcases List.mem_cons.mp hw with e | hw
      · subst e
        exact hcw
      · exact hw
  exact ⟨hin, good_of_word (hG _ hin)⟩
set_option maxHeartbeats 1000000 in
/-- a call of a static method with a table, that returns -/
theorem x_callW (hG : ∀ w ∈ xp_G u, goodWord w = true) (hc : x_Ctx u y p s m args meth c) {idx n pc : Nat} {lv : xL} {st : List Value} {h h1 : xH} {nc ns d mc ms : Nat} {r : Option Value} (hn : n ≤ st.length) (hroom : ((st.drop n).map fun v => v.category).sum ≤ 8)
    (hcw : Cond.codeWith yk.1 yk.2.1 yk.2.2.1 yk.2.2.2 hh ∈ xp_G u) (hini : Cond.initialized yk.1.cls ∈ xp_G u) (hstat : Cond.static yk.1 ∈ xp_G u) (hlk : Cond.methodLink y.1.cls idx yk.1 ∈ xp_G u) (hnm : yk.1.cls ≠ "java/lang/invoke/MethodHandle" ∧ yk.1.cls ≠ "java/lang/invoke/VarHandle" ∧ (parseMethodDescriptor yk.1.desc).map (fun d => d.parameters.length) = some n) (hmx : yk.2.2.1 + 19 ≤ 64)
    (hM : Met l yk.1 (x_wsW u yk hh) (x_rm d mc ms) (x_Pc u (st.take n).reverse h) (x_Qc u r h1) mc ms (xp_A u)) (hf1 : d + 2 ≤ R.frames) (hf2 : 64 * (d + 2) ≤ R.locals) (hc1 : nc + mc ≤ R.cells) (hc2 : ns + ms ≤ R.slots) (hd : decode y.2.1 pc = .ok (.invokestatic idx, 3))
    (hK : x_K u y.2.2.1 p l e R s m args below meth c Q (pc + 3) lv (r.toList ++ st.drop n) h1 (nc + mc) (ns + ms)) : x_K u y.2.2.1 p l e R s m args below meth c Q pc lv st h nc ns := by
  intro ls H locs hl hR hS
  have hE := hc.2.2.2.2.2.2.2.2
  have hts := hc.2.2.2.2.1
  have hrl : 8 + (yk.2.2.1 + 11) + (x_rm d mc ms).locals ≤ R.locals := by
    show 8 + (yk.2.2.1 + 11) + 64 * (d + 1) ≤ R.locals
    omega
  have hlen : ((st.take n).reverse.map (x_v (xp_ad u))).length = n := by rw [List.length_map, List.length_reverse, List.length_take]; omega
  have hstk : st.map (x_v (xp_ad u)) = (((st.take n).reverse.map (x_v (xp_ad u))).reverse) ++ (st.drop n).map (x_v (xp_ad u)) := by
    conv => lhs; rw [← List.take_append_drop n st]
    simp
  have hroom' : 2 * (F0 m pc ls (st.map (x_v (xp_ad u)))).monitorRoom + (((st.drop n).map (x_v (xp_ad u))).map fun v => v.category).sum ≤ 8 := by
    refine lv_room ?_
    rw [List.map_map]
    rw [show (fun v : Value => v.category) ∘ x_v (xp_ad u) = (fun v : Value => v.category) from funext (fun v => x_cat _ v)]
    exact hroom
  refine x_callx (vx_runSW (As := (st.take n).reverse.map (x_v (xp_ad u))) ⟨hc.1, hc.2.1, hc.2.2.1, hc.2.2.2.1, hts⟩ hM (vx_cwSW n hts (x_goodW hG hcw hini hstat hlk) rfl rfl rfl hnm ⟨hf1, hrl⟩) ⟨x_blind, x_pre hE hS hR⟩ rfl hlen hl.1 hstk hroom' hd ⟨hc1, hc2⟩) hS ?_
  intro H1 locs1 hR1 hS1
  have hW := hK ls H1 locs1 hl hR1 hS1
  rw [List.map_append] at hW
  rw [show r.toList.map (x_v (xp_ad u)) = (r.map (x_v (xp_ad u))).toList by cases r <;> rfl] at hW
  exact hW
set_option maxHeartbeats 1000000 in
/-- a call of a static method that catches -/
theorem x_callD (hG : ∀ w ∈ xp_G u, goodWord w = true) (hc : x_Ctx u y p s m args meth c) (hZ : x_XZ u s) {idx n pc : Nat} {lv : xL} {st : List Value} {h : xH} {nc ns : Nat} {r : Int32} (hn : n ≤ st.length) (hroom : ((st.drop n).map fun v => v.category).sum ≤ 8)
    (hcw : Cond.codeWith yk.1 yk.2.1 yk.2.2.1 yk.2.2.2 hh ∈ xp_G u) (hini : Cond.initialized yk.1.cls ∈ xp_G u) (hstat : Cond.static yk.1 ∈ xp_G u) (hlk : Cond.methodLink y.1.cls idx yk.1 ∈ xp_G u) (hnm : yk.1.cls ≠ "java/lang/invoke/MethodHandle" ∧ yk.1.cls ≠ "java/lang/invoke/VarHandle" ∧ (parseMethodDescriptor yk.1.desc).map (fun d => d.parameters.length) = some n) (hmx : yk.2.2.1 + 19 ≤ 64)
    (hM : x_MetD u l yk hh (st.take n).reverse r h) (hf1 : 14 ≤ R.frames) (hf2 : 896 ≤ R.locals) (hc1 : nc + 1 ≤ R.cells) (hc2 : ns + 6 ≤ R.slots) (hd : decode y.2.1 pc = .ok (.invokestatic idx, 3))
    (hK : ∀ h1, h1 = h ∨ h1 = h ++ [x_op] → x_K u y.2.2.1 p l e R s m args below meth c Q (pc + 3) lv (.int r :: st.drop n) h1 (nc + 1) (ns + 6)) : x_K u y.2.2.1 p l e R s m args below meth c Q pc lv st h nc ns := by
  intro ls H locs hl hR hS
  have hE := hc.2.2.2.2.2.2.2.2
  have hts := hc.2.2.2.2.1
  have hrl : 8 + (yk.2.2.1 + 11) + x_rmH.locals ≤ R.locals := by
    show 8 + (yk.2.2.1 + 11) + 832 ≤ R.locals
    omega
  have hlen : ((st.take n).reverse.map (x_v (xp_ad u))).length = n := by rw [List.length_map, List.length_reverse, List.length_take]; omega
  have hstk : st.map (x_v (xp_ad u)) = (((st.take n).reverse.map (x_v (xp_ad u))).reverse) ++ (st.drop n).map (x_v (xp_ad u)) := by
    conv => lhs; rw [← List.take_append_drop n st]
    simp
  have hroom' : 2 * (F0 m pc ls (st.map (x_v (xp_ad u)))).monitorRoom + (((st.drop n).map (x_v (xp_ad u))).map fun v => v.category).sum ≤ 8 := by
    refine lv_room ?_
    rw [List.map_map]
    rw [show (fun v : Value => v.category) ∘ x_v (xp_ad u) = (fun v : Value => v.category) from funext (fun v => x_cat _ v)]
    exact hroom
  have hr := vx_runSW (As := (st.take n).reverse.map (x_v (xp_ad u))) (meth := meth) (e := e) (below := below) (locs := locs) (cells := nc) (slots := ns) (g := F0 m pc ls (st.map (x_v (xp_ad u)))) ⟨hc.1, hc.2.1, hc.2.2.1, hc.2.2.2.1, hts⟩ hM (vx_cwSW n hts (x_goodW hG hcw hini hstat hlk) rfl rfl rfl hnm ⟨hf1, hrl⟩) ⟨x_blindX, fun U hU hW => ⟨rfl, ⟨x_Env_moved hS hU hW hE, x_XZ_moved hS hU hW hZ⟩, by rw [hU]; exact hR⟩⟩ rfl hlen hl.1 hstk hroom' hd ⟨hc1, hc2⟩
  intro T0 hT X
  obtain ⟨v, st₀, t, T', L, h0, X', hL, e1, e2, ⟨hv, hb, hz, hk⟩, stp⟩ := hr T0 hT X
  cases hv
  rw [h0] at hz hk
  have hS1 : va_S (xp_A u) s.heap T'.heap (locs ++ L) := ⟨Nat.le_trans hS.1 (by rw [e1]; exact hz), fun q h1 h2 => by rw [e1, hk q (Nat.lt_of_lt_of_le h1 hS.1) h2]; exact hS.2.1 q h1 h2, fun q hq => by
      rcases List.mem_append.mp hq with h | h
      · exact hS.2.2 q h
      · exact hL q h⟩
  have hR1 : ∃ h1, (h1 = h ∨ h1 = h ++ [x_op]) ∧ x_R u h1 T'.heap := by
    rcases hb with hb | hb
    · exact ⟨h, Or.inl rfl, by rw [e1]; exact hb⟩
    · exact ⟨_, Or.inr rfl, by rw [e1]; exact hb⟩
  obtain ⟨h1, q1, q2⟩ := hR1
  obtain ⟨t2, a1, b1⟩ := hK h1 q1 ls T'.heap (locs ++ L) hl q2 hS1 T' rfl X'
  exact ⟨t2, stp t2 a1, b1⟩
end CallW
end XHelp
