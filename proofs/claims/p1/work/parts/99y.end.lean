def R_law : String := "RelayHallLaw"
def lw_P (b : Addr) (xs : List Int32) (args : Array Value) (s : State) : Prop := args = #[.ref b] ∧ s.IntsAt b xs ∧ xs.length ≤ 4 ∧ (Jvm.Cond.and given_1 narrow_1).before args s = true
def lw_Q (_ : Array Value) (s : State) (o : Outcome) (t : State) : Prop := o = .returned (some (.int 1)) ∧ Framed s o t [] 600002 7302232
def lw_Z (below : List Frame) (a : Array Value) (s : State) : State → Prop := fun t => ∃ o, t.status = .running ∧ Ended t below o ∧ lw_Q a s o t
/-- the law's own end, with 1 on the stack, nothing written that was there before, its room as the claim has it -/
theorem lw_ret {p : Program} {l : Launch} {e : Env} {s : State} {m : MethodId} {below : List Frame} {meth : Method} {c : Code} {b : Nat} (hx : p.tables.exec = Jvm.exec) (hb : c.code = code) (hr : meth.sig.returnType = ret) (hlocks : meth.locks = false) {pc : Nat} {H : Heap} {ls : Array Slot} (hdg : decode code pc = .ok (.ireturn, 1)) : W p l e room_1 s m #[Value.ref b] below meth c H [] 600002 7302232 (lw_Z below #[Value.ref b] s) (F0 m pc ls [.int 1]) := by
  intro T hT X
  obtain ⟨fs, hret, hrun, hended, hW, hframe⟩ := X.leave (v := some (.int 1)) (hlocks := hlocks) (fun h => by rw [hr] at h; cases h)
  have hmeth' : T.vm.method? m = some meth := X.method'
  refine ⟨T.setFrames fs, ?_, .returned (some (.int 1)), hrun, hended, rfl, ⟨_, rfl⟩, hW, hframe⟩
  jvm_step X.here [X.here.top, hx, hb, hdg, hmeth', hr, ret, narrow_b1]
  (try refine ⟨rfl, ?_⟩); (try refine ⟨rfl, ?_⟩)
  first | (intro acts; rw [hret _ acts rfl rfl rfl]) | rw [hret _ _ rfl rfl rfl]
  exact Steps.refl _
/-- what holds at the law's entry: the machine, the code, the tables' words (any of lw_tbl by 'hts w (by decide +kernel)'), the script of L ints xs at the cell b, what the Statement gives of the start (any of its parts by flat_of_before) -/
def lw_At (p : Program) (s : State) (m : MethodId) (meth : Method) (c : Code) (b L : Nat) (xs : Nat → Int32) : Prop :=
  p.tables.exec = Jvm.exec ∧ c.code = code ∧ meth.sig.returnType = ret ∧ c.maxLocals = 8 ∧ s.vm.findClass R_law = some m.cls ∧ (∀ w ∈ lw_tbl, w.before #[Value.ref b] s = true) ∧ va_X b L xs s s.heap ∧ b < s.heap.size ∧ meth.locks = false ∧ (Jvm.Cond.and given_1 narrow_1).before #[Value.ref b] s = true
theorem x_XZ0 {s : State} {b L : Nat} {xs : Nat → Int32} {D : va_G} {tc : Nat → ClassId} {ex : Nat → Nat} (hts : ∀ w ∈ lw_tbl, w.before #[Value.ref b] s = true) (hgv : (Jvm.Cond.and given_1 narrow_1).before #[Value.ref b] s = true) : x_XZ (xu D tc s.heap.size ex L xs) s := by
  have hs := flat_of_before _ hgv
  have hA : ∀ a : Nat, a < s.heap.size → ¬ xp_A (xu D tc s.heap.size ex L xs) a := fun a h => Nat.not_le.mpr h
  exact ⟨vx_Zqof (args := #[Value.ref b]) (hts _ (by decide +kernel)) (hts _ (by decide +kernel)) (hs _ (by decide +kernel)) hA, vx_Zqof (args := #[Value.ref b]) (hts _ (by decide +kernel)) (hts _ (by decide +kernel)) (hs _ (by decide +kernel)) hA⟩
theorem sg_new {cd : Nat → xI} {pc k1 ci N n : Nat} {fs : List Value} {lv : xL} {st : List Value} {h : xH} {nc ns : Nat} (h1 : cd pc = xi_new k1 ci N fs) (hn : h.length = n) (hlt : n < xT) : x_seg cd 1 (pc, lv, st, h, nc, ns) = some (k1, lv, .ref n :: st, h ++ [.inr (ci, fs)], nc + 1, ns + N) := by
  subst hn
  simp only [x_seg, x_go1, h1, xi_new, if_pos hlt]
theorem sg_newa {cd : Nat → xI} {pc k1 t b n : Nat} {i : Int32} {lv : xL} {st : List Value} {h : xH} {nc ns : Nat} (h1 : cd pc = xi_newarray k1 t b) (hn : h.length = n) (hlt : n < xT) (hi : ¬ i < 0 ∧ i.toNatClampNeg * b ≤ 536870912) : x_seg cd 1 (pc, lv, .int i :: st, h, nc, ns) = some (k1, lv, .ref n :: st, h ++ [.inl (t, i.toNatClampNeg, [])], nc + 1, ns + i.toNatClampNeg) := by
  subst hn
  have e : ¬ i < 0 ∧ i.toNatClampNeg * b ≤ 536870912 ∧ h.length < xT := ⟨hi.1, hi.2, hlt⟩
  simp only [x_seg, x_go1, h1, xi_newarray, if_pos e]
theorem x_h1_len : x_h1.length = 114 := by decide +kernel
theorem x_h2_len : x_h2.length = 200 := by decide +kernel
theorem lw_Good_w {u : xPi} {l : Launch} {dd : Nat} {xs : Nat → Int32} {n : Nat} {h : xH} {P P' : xH → Nat → Nat → Prop} (hp : ∀ h2 mc ms, P h2 mc ms → P' h2 mc ms) (hg : lw_Good u l dd xs n h P) : lw_Good u l dd xs n h P' := by
  obtain ⟨g0, g1, g2, g3, g4, g5, g6, g7, g8, g9, g10, g11, g12, gd⟩ := hg
  exact ⟨fun e => lw_pair_w hp (g0 e), fun e => lw_pair_w hp (g1 e), fun e => lw_pair_w hp (g2 e), fun e => lw_pair_w hp (g3 e), fun e => lw_pair_w hp (g4 e), fun e => lw_thr_w hp (g5 e), fun e => lw_thr_w hp (g6 e), fun e => lw_thr_w hp (g7 e), fun e => lw_pair_w hp (g8 e), fun e => lw_pair_w hp (g9 e), fun e => lw_pair_w hp (g10 e), fun e => lw_pair_w hp (g11 e), fun e => lw_pair_w hp (g12 e), fun e => hp _ _ _ (gd e)⟩
section Walk
variable {D : va_G} {tc : Nat → ClassId} {b0 : Nat} {ex : Nat → Nat} {L : Nat} {xs : Nat → Int32}
variable {p : Program} {l : Launch} {e : Env} {s : State} {m : MethodId} {args : Array Value} {below : List Frame} {meth : Method} {c : Code} {Q : State → Prop}
/-- from the law's entry to its loop -/
theorem lw_begin (hx : ∀ j, xT ≤ j → ex j < b0) (hc : x_Ctx (xu D tc b0 ex L xs) xm_494 p s m args meth c) (hK : lw_K D tc b0 ex L xs p l e room_1 s m args below meth c Q (23, lw_lv (Int32.ofNat 0), [], x_hL, 201, 51460)) : lw_K D tc b0 ex L xs p l e room_1 s m args below meth c Q (0, lv_args 0 [.ref 1000000001], [], [], 0, 0) := by
  refine lw_sg hx hc (by decide) (by decide) (N := 1) (g' := (3, lv_args 0 [.ref 1000000001], [.ref 0], [.inr (0, xD_0)], 1, 21)) (sg_new (cd := xc_494 L xs) (pc := 0) (k1 := 3) (ci := 0) (N := 21) (n := 0) (fs := xD_0) (lv := lv_args 0 [.ref 1000000001]) (st := []) (h := []) (nc := 0) (ns := 0) rfl rfl (by decide)) (by decide) (by decide) ?_
  refine lw_sg hx hc (by decide) (by decide) (N := 1) (g' := (4, lv_args 0 [.ref 1000000001], [.ref 0, .ref 0], [.inr (0, xD_0)], 1, 21)) rfl (by decide) (by decide) ?_
  refine lw_cl hx hc (dd := 12) (by decide) (by decide) (pc' := 7) (st' := [.ref 0]) (j := 0) (as := [.ref 0]) (r := none) (h1 := x_h1) (mc := 113) (ms := 23629) rfl (x_met (x_hok hx) x_hpl rfl x_c1) (by decide) (by decide) ?_
  refine lw_sg hx hc (by decide) (by decide) (N := 1) (g' := (8, [(1, .ref 0), (0, .ref 1000000001)], [], x_h1, 114, 23650)) rfl (by decide) (by decide) ?_
  refine lw_sg hx hc (by decide) (by decide) (N := 1) (g' := (11, [(1, .ref 0), (0, .ref 1000000001)], [.ref 114], x_h1 ++ [.inr (20, xD_20)], 115, 23696)) (sg_new (cd := xc_494 L xs) (pc := 8) (k1 := 11) (ci := 20) (N := 46) (n := 114) (fs := xD_20) (lv := [(1, .ref 0), (0, .ref 1000000001)]) (st := []) (h := x_h1) (nc := 114) (ns := 23650) rfl x_h1_len (by decide)) (by decide) (by decide) ?_
  refine lw_sg hx hc (by decide) (by decide) (N := 1) (g' := (12, [(1, .ref 0), (0, .ref 1000000001)], [.ref 114, .ref 114], x_h1 ++ [.inr (20, xD_20)], 115, 23696)) rfl (by decide) (by decide) ?_
  refine lw_cl hx hc (dd := 12) (by decide) (by decide) (pc' := 15) (st' := [.ref 114]) (j := 309) (as := [.ref 114]) (r := none) (h1 := x_h2) (mc := 85) (ms := 27763) rfl (x_met (x_hok hx) x_hpl rfl x_c2) (by decide) (by decide) ?_
  refine lw_sg hx hc (by decide) (by decide) (N := 2) (g' := (17, [(2, .ref 114), (1, .ref 0), (0, .ref 1000000001)], [.int 1], x_h2, 200, 51459)) rfl (by decide) (by decide) ?_
  refine lw_sg hx hc (by decide) (by decide) (N := 1) (g' := (19, [(2, .ref 114), (1, .ref 0), (0, .ref 1000000001)], [.ref 200], x_hL, 201, 51460)) (sg_newa (cd := xc_494 L xs) (pc := 17) (k1 := 19) (t := 4) (b := 8) (n := 200) (i := 1) (lv := [(2, .ref 114), (1, .ref 0), (0, .ref 1000000001)]) (st := []) (h := x_h2) (nc := 200) (ns := 51459) rfl x_h2_len (by decide) (by decide)) (by decide) (by decide) ?_
  exact lw_sg hx hc (by decide) (by decide) (N := 3) (g' := (23, lw_lv (Int32.ofNat 0), [], x_hL, 201, 51460)) rfl (by decide) (by decide) hK
/-- the one pass, and the end -/
theorem lw_one (hx : ∀ j, xT ≤ j → ex j < b0) (hc : x_Ctx (xu D tc b0 ex L xs) xm_494 p s m args meth c) (hZ : x_XZ (xu D tc b0 ex L xs) s) (hl : l.stackTraces = false) (hL : L ≤ 4)
    (hE : ∀ (n : Nat) (h : xH) (nc ns : Nat), nc ≤ 300 → ns ≤ 60000 → lw_K D tc b0 ex L xs p l e room_1 s m args below meth c Q (643, lw_lv (Int32.ofNat n), [], h, nc, ns)) : lw_K D tc b0 ex L xs p l e room_1 s m args below meth c Q (0, lv_args 0 [.ref 1000000001], [], [], 0, 0) := by
  refine lw_begin hx hc ?_
  refine lw_loop (R := room_1) hx hc hZ (dd := 12) (by decide) (by decide) (by decide) (by omega) (fun n h nc ns => (n = 0 ∧ h = x_hL ∧ nc = 201 ∧ ns = 51460) ∨ (4 ≤ n ∧ nc ≤ 300 ∧ ns ≤ 60000)) ?_ ?_ 1 0 x_hL 201 51460 (by omega) (by omega) (Or.inl ⟨rfl, rfl, rfl, rfl⟩)
  · intro n h nc ns hi
    rcases hi with ⟨rfl, rfl, rfl, rfl⟩ | ⟨h1, h2, h3⟩
    · refine ⟨by decide, by decide, fun _ => ⟨hL_0, lw_Good_w (fun h2 mc ms q => Or.inr ⟨Nat.le_refl _, by omega, by omega⟩) (good0 hx hl)⟩⟩
    · have r1 : (300 : Nat) ≤ room_1.cells := by decide
      have r2 : (60000 : Nat) ≤ room_1.slots := by decide
      exact ⟨by omega, by omega, fun h4 => by omega⟩
  · intro n h nc ns hi
    rcases hi with ⟨rfl, rfl, rfl, rfl⟩ | ⟨h1, h2, h3⟩
    · exact hE _ _ _ _ (by omega) (by omega)
    · exact hE _ _ _ _ h2 h3
end Walk
theorem whole_start {p : Program} {e : Env} {s : State} {m : MethodId} {below : List Frame} {meth : Method} {c : Code} (l : Launch) (hl : l.stackTraces = false) (hname : meth.name = "law") {b L : Nat} {xs : Nat → Int32} (hL : L ≤ 4) (C0 : lw_At p s m meth c b L xs) : W p l e room_1 s m #[Value.ref b] below meth c s.heap [] 0 0 (lw_Z below #[Value.ref b] s) (entryFrame m ([Value.ref b] : List Value).toArray 8) := by
  obtain ⟨h1, h2, h3, h4, h5, hts, hX, hbl, h9, hgv⟩ := C0
  obtain ⟨D, tc, ex, hE, hx, hb⟩ := x_env0 hts hgv hX hbl
  have hZ := x_XZ0 (D := D) (tc := tc) (ex := ex) (L := L) (xs := xs) hts hgv
  have hc : x_Ctx (xu D tc s.heap.size ex L xs) xm_494 p s m #[Value.ref b] meth c := ⟨h1, h2, h4, h5, fun w hw => hts w (List.mem_filter.mp hw).1, h3, h9, hname, hE⟩
  have e1 : ([.ref 1000000001] : List Value).map (x_v (xp_ad (xu D tc s.heap.size ex L xs))) = [Value.ref b] := by
    show [Value.ref (ex 1000000001)] = [Value.ref b]
    rw [hb]
  have hl1 := lv_entry [Value.ref b] (n := 8) (Nat.le_of_ble_eq_true rfl)
  rw [lg_entry_eq]
  have hR : x_R (xu D tc s.heap.size ex L xs) [] s.heap := ⟨rfl, Nat.zero_le _, fun i q hi _ => by simp at hi⟩
  have r1 : (300 : Nat) ≤ room_1.cells := by decide
  have r2 : (60000 : Nat) ≤ room_1.slots := by decide
  have hEnd : ∀ (n : Nat) (h : xH) (nc ns : Nat), nc ≤ 300 → ns ≤ 60000 → lw_K D tc s.heap.size ex L xs p l e room_1 s m #[Value.ref b] below meth c (lw_Z below #[Value.ref b] s) (643, lw_lv (Int32.ofNat n), [], h, nc, ns) := by
    intro n h nc ns q1 q2
    refine lw_sg hx hc (by decide) (by decide) (N := 1) (g' := (644, lw_lv (Int32.ofNat n), [.int 1], h, nc, ns)) rfl (Nat.le_trans q1 r1) (Nat.le_trans q2 r2) ?_
    intro ls H locs hl2 hR2 hS2
    exact va_forget hS2.2.2 (W.widen (Nat.le_trans q1 r1) (Nat.le_trans q2 r2) (lw_ret (pc := 644) h1 h2 h3 h9 (by decide +kernel)))
  exact lw_one hx hc hZ hl hL hEnd _ s.heap [] (by rw [x_l_args, e1]; exact hl1) hR va_S.rf
set_option maxHeartbeats 4000000 in
theorem lw_walk (l : Launch) (hl : l.stackTraces = false) (b : Addr) (xs : List Int32) : MetFree l x (headSpec (Jvm.Cond.code x code maxLocals ret :: tables_1) room_1) (lw_P b xs) (fun _ _ _ _ _ => True) lw_Q := by
  refine MetFree.of_bodyS (code := code) (maxLocals := maxLocals) (ret := ret) (by decide) ?_ ?_
  · intro args s m h hn
    obtain ⟨meth, c, h1, h2, h3, h4, h5, h6, -, -⟩ := Cond.code_spec hn (atoms_spec (ws := Jvm.Cond.code x code maxLocals ret :: tables_1) h _ List.mem_cons_self)
    exact ⟨meth, c, h1, h2, h3, h4, h5, h6⟩
  · intro p e s m args below meth c s₁ B hml0 hP _
    obtain ⟨rfl, hx, hbd, hgv⟩ := hP
    obtain ⟨scr, harrAt, hlist, hof, hsmall⟩ := hx
    obtain ⟨hcb, hkn, -, -⟩ := State.arrayAt?_spec harrAt
    have hown : s.vm.findClass R_law = some m.cls := findClass_of_methodNamed B.named
    have hts0 : ∀ c ∈ (Jvm.Cond.code x code maxLocals ret :: tables_1), c.before #[Value.ref b] s = true := atoms_spec (ws := Jvm.Cond.code x code maxLocals ret :: tables_1) B.pre
    have hts : ∀ w ∈ lw_tbl, w.before #[Value.ref b] s = true := k2_hts_sels lw_privs (fun w hw => hts0 w (List.mem_cons_of_mem _ hw)) lw_privs_ok
    have hml : c.maxLocals = 8 := B.maxLocals_eq (hts0 _ List.mem_cons_self)
    have X₀ : Stand p l e room_1 s m #[Value.ref b] below meth c s₁ [] 0 0 := Stand.of_body B
    have hh0 : s₁.heap = s.heap := by rw [B.state]; rfl
    have hsz : scr.slots.size = xs.length := by rw [← Array.length_toList, hlist, List.length_map]
    have hval : ∀ j : Nat, j < xs.length → scr.slots[j]? = some (.int (xs.getD j 0)) := fun j hj => by
      rw [← Array.getElem?_toList, hlist]
      simp [hj]
    have hbl : b < s.heap.size := (Array.getElem?_eq_some_iff.mp hcb).1
    have hX : va_X b xs.length (fun j => xs.getD j 0) s s.heap := ⟨scr, hcb, hof, hkn, hsz, hval⟩
    have K : W p l e room_1 s m #[Value.ref b] below meth c s₁.heap [] 0 0 (lw_Z below #[Value.ref b] s) (entryFrame m ([Value.ref b] : List Value).toArray 8) := by
      rw [hh0]
      exact whole_start l hl (name_of_methodNamed B.named B.method).1 hbd ⟨B.exec, B.bytes, B.returns, hml, hown, hts, hX, hbl, B.notSynchronized, hgv⟩
    obtain ⟨t, a1, o, b1, b2, b3⟩ := K s₁ rfl X₀
    exact ⟨t, o, a1, b1, b2, b3⟩
theorem lw_pre_spec {args : Array Value} {s : State} (h : (Jvm.Cond.and given_1 narrow_1).before args s = true) (hr : rest_1_c.before args s = true) : ∃ (b : Addr) (xs : List Int32), lw_P b xs args s := by
  have hs := flat_of_before _ h
  have hq := flat_of_before _ hr
  have hc : (Cond.count 1).before args s = true := hs _ (by decide +kernel)
  have harr : (Cond.arrayOf (.arg 0) .int).before args s = true := hs _ (by decide +kernel)
  have hle : (Cond.le (.length (.arg 0)) (.int 4)).before args s = true := hs _ (by decide +kernel)
  have hlen : (Cond.isInt (.length (.arg 0))).before args s = true := hq _ (by decide +kernel)
  have hall : (Cond.all (.arg 0) (.isInt (.elem (.arg 0) (.index 0)))).before args s = true := hq _ (by decide +kernel)
  obtain ⟨b, xs, hb, hx⟩ := State.ints_of_pre rfl harr hlen hall
  have hsm : xs.length < 2 ^ 31 := hx.choose_spec.2.2.2
  have hev : (Term.length (.arg 0)).eval args s none [] s = some (.int xs.length.toInt32) := hx.length_eval hb
  have hv := Cond.le_ints hev (show (Term.int 4).eval args s none [] s = some (.int 4) from rfl)
  have hd : xs.length.toInt32 ≤ 4 := by
    simpa [Cond.before, Cond.holds, hv] using hle
  have hN : xs.length ≤ 4 := (Int32.ofNat_le_ofNat hsm (by decide)).mp (show Int32.ofNat xs.length ≤ Int32.ofNat 4 from hd)
  exact ⟨b, xs, Cond.one_arg hc (show args[0]? = some (.ref b) from hb), hx, hN, h⟩
theorem lw_comes (l : Launch) (hl : l.stackTraces = false) : Comes l x (Jvm.Cond.code x code maxLocals ret :: tables_1) room_1 (fun tb e args s => Calls_1 tb e args s ∧ rest_1 tb e args s ∧ Pre_1 tb e args s)
    (fun _ _ args s o t => lw_Q args s o t) := by
  intro p e ha hc hk s m args below hf hfit hheap happ hpre
  obtain ⟨b, xs, hP⟩ := lw_pre_spec hpre.2.2 hpre.2.1
  obtain ⟨k, o, h1, h2, h3, hQ⟩ := lw_walk l hl b xs p e ha hc hk s m args below hf ((Spec.applies_iff_loose hf).mp happ).1 hP trivial
  exact ⟨k, o, h1, h2, h3, hQ⟩
theorem lw_frame {s t : State} {o : Outcome} {args : Array Value} (h : Framed s o t [] 600002 7302232) :
    Framed s o t (fieldLocs frame_1_writes args s ++ arrayLocs frame_1_arrays args s ++ staticLocs frame_1_statics s) 600002 7302232 := h
theorem lw_limb (L : Cond) (hL : ∀ (args : Array Value) (s t : State), L.after args s (.returned (some (.int 1))) t = true) :
    ArmFor flags0 classFile x code maxLocals ret World_1 tables_1 room_1 Calls_1 rest_1 Pre_1
      (fun tb e a s o t => postC L tb e a s o t ∧ Framed s o t (fieldLocs frame_1_writes a s ++ arrayLocs frame_1_arrays a s ++ staticLocs frame_1_statics s) 600002 7302232) := by
  intro l hfl _ _ p e ha hc hk s m args below hf hfit hheap happ hpre
  obtain ⟨k, o, h1, h2, h3, rfl, hF⟩ := lw_comes l (by unfold Launch.stackTraces; rw [hfl]; decide +kernel) p e ha hc hk s m args below hf hfit hheap happ hpre
  exact ⟨k, _, h1, h2, h3, hL args s _, lw_frame hF⟩
