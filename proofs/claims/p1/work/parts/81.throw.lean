section XThrow
/-- the two statics that a throw reads -/
def x_XZ (u : xPi) (U : State) : Prop := vx_Zq Bundle.tN "UNASSIGNED_STACK" Bundle.steD (xp_A u) U U.heap ∧ vx_Zq Bundle.tN "SUPPRESSED_SENTINEL" Bundle.listD (xp_A u) U U.heap
theorem x_XZ_moved {u : xPi} {s U : State} {H : Heap} {locs : List Loc} (hS : va_S (xp_A u) s.heap H locs) (hU : U.heap = H) (hW : s.WarmedH U.vm) (h : x_XZ u s) : x_XZ u U := by
  have hq : ∀ a : Nat, a < s.heap.size → ¬ xp_A u a → U.heap[a]? = s.heap[a]? := fun a ha hA => by rw [hU]; exact hS.2.1 a ha hA
  exact ⟨(h.1.kept hq).moved hW.alike, (h.2.kept hq).moved hW.alike⟩
theorem x_XZ_calling {u : xPi} {U : State} {g : JFrame} {mk : MethodId} {a : Array Value} (h : x_XZ u U) : x_XZ u (U.calling g mk a) := ⟨h.1.moved (Vm.Alike.refl U.vm), h.2.moved (Vm.Alike.refl U.vm)⟩
def x_PcX (u : xPi) (as : List Value) (h : xH) : Array Value → State → Prop := va_Pc (as.map (x_v (xp_ad u))) (fun U => (x_Env u U ∧ x_XZ u U) ∧ x_R u h U.heap)
theorem x_blindX {u : xPi} {as : List Value} {h : xH} : FrameBlind (x_PcX u as h) := by
  intro a U g mk q
  obtain ⟨q0, ⟨q1, q3⟩, q2⟩ := q
  exact ⟨q0, ⟨x_Env_calling q1, x_XZ_calling q3⟩, q2⟩
/-- the cells h, and perhaps more behind them -/
def x_RX (u : xPi) (h : xH) (H : Heap) : Prop := xp_b u + h.length ≤ H.size ∧ ∀ (i : Nat) (q : xE), h[i]? = some q → x_vis u q → va_at (xp_D u) (xp_cl u) (xp_ad u i, x_c (xp_ty u) (xp_ad u) q) H
def x_XC (u : xPi) (h : xH) (E : String) : String → State → State → Prop := fun E' st t => E' = E ∧ x_RX u h t.heap ∧ va_F (xp_A u) st t
def x_rmX : Room := { frames := 12, cells := 1, slots := 6, locals := 768 }
/-- a method that throws E, and changes nothing -/
def x_MetX (u : xPi) (l : Launch) (y : xM) (as : List Value) (h : xH) (E : String) : Prop := vx_Met l y.1 (x_ws u y) x_rmX (x_PcX u as h) (fun _ _ _ _ => False) (x_XC u h E) 1 6 (xp_A u)
theorem x_nest_on {w : Cond} (h : x_nest w = true) : w.onTables = true := by
  cases w <;> first | rfl | (simp [x_nest] at h)
set_option maxHeartbeats 1000000 in
theorem x_throws {u : xPi} {pr : xPr} {y : xM} {cd : Nat → xI} {l : Launch} (hpr : ∀ (j k : Nat), x_ok u (fun j => (pr j).1) (pr j).1 x_id k ((pr j).2 k)) (hpl : ∀ j, plainName (pr j).1.1.cls = true ∨ (pr j).2 0 = x_no) (hok : ∀ k, x_ok u (fun j => (pr j).1) y x_id k (cd k)) (hl : l.stackTraces = false) (hy : plainName y.1.cls = true)
    {as : List Value} {h : xH} {fl n pc0 : Nat} {lv : xL} {E : String} {names : List String} {ik ic : Nat} (hfit : x_fit as y.2.2.1 = true) (hup : x_upto pr cd fl 8 pc0 n (0, lv_args 0 as, [], h, 0, 0) = some (pc0, lv, [], h, 0, 0))
    (hE1 : Bundle.fit E = true) (hnames : ∀ n ∈ names, Bundle.fit n = true) (hnl : names.length ≤ 4) (hk : Cond.classLink y.1.cls ik E ∈ xp_G u) (hini : Cond.initialized E ∈ xp_G u) (hat : ∀ w ∈ vx_at0 y.1.cls ic E names, w ∈ xp_G u ∨ w ∈ xp_n u)
    (hgood : ∀ w ∈ Cond.classLink y.1.cls ik E :: Cond.initialized E :: vx_at0 y.1.cls ic E names, vx_ot w = true)
    (d0 : decode y.2.1 pc0 = .ok (.new ik, 3)) (d3 : decode y.2.1 (pc0 + 3) = .ok (.dup, 1)) (d4 : decode y.2.1 (pc0 + 4) = .ok (.invokespecial ic, 3)) (d7 : decode y.2.1 (pc0 + 7) = .ok (.athrow, 1)) : x_MetX u l y as h E := by
  refine vx_ofW (cc := y.2.1) (maxL := y.2.2.1) (ret := y.2.2.2) hy rfl ?_
  intro p e s m args below meth c s₁ B hml hne hv
  obtain ⟨rfl, ⟨hE, hZ⟩, hR⟩ := hv
  have hctx : x_Ctx u y p s m (as.map (x_v (xp_ad u))).toArray meth c := ⟨B.exec, B.bytes, hml, findClass_of_methodNamed B.named, (fun w hw => atoms_spec (ws := x_ws u y) B.pre w (List.mem_cons_of_mem _ hw)), B.returns, B.notSynchronized, (name_of_methodNamed B.named B.method).1, hE⟩
  have hfit' : (lg_sl (as.map (x_v (xp_ad u)))).length ≤ y.2.2.1 := by rw [x_sl_len]; exact of_decide_eq_true hfit
  have hl1 := lv_entry (as.map (x_v (xp_ad u))) (n := y.2.2.1) hfit'
  rw [lg_entry_eq]
  have hK := (x_upto_ok (l := l) (e := e) (below := below) (R := x_rmX) (Q := vx_MQ below (fun _ _ _ _ => False) (x_XC u h E) (as.map (x_v (xp_ad u))).toArray s 1 6 (xp_A u)) hpr hpl hok hctx (by decide) (by decide) n hup).2.2 (Nat.zero_le _) (Nat.zero_le _)
  refine hK ?_ _ s.heap [] (by rw [x_l_args]; exact hl1) hR va_S.rf
  intro ls H locs hl2 hR2 hS
  dsimp only at hR2 hl2 ⊢
  have hat' : ∀ w ∈ vx_at0 y.1.cls ic E names, w.before (as.map (x_v (xp_ad u))).toArray s = true := by
    intro w hw
    rcases hat w hw with h1 | h1
    · exact hctx.2.2.2.2.1 w h1
    · exact va_Nw.use (x_nest_on (hE.2.2.1 w h1).1) (hE.2.2.1 w h1).2
  refine vx_throw0 (A := xp_A u) hctx.1 hctx.2.1 hl hctx.2.2.2.1 hE1 hnames (hctx.2.2.2.2.1 _ hk) (hctx.2.2.2.2.1 _ hini) hat' hgood hZ.1 hZ.2 hS (by rw [hml]; exact hl2.1) d0 d3 d4 d7 (fun x hx => (hne x hx).elim) ?_ ?_ (by decide) (by decide) B.notSynchronized ?_ hS.2.2 (by decide) (by decide)
  · show names.length + 3 < 12
    omega
  · show (([] : List Value).map fun v => v.category).sum + (13 * (names.length + 1) + 42) ≤ 768
    simp
    omega
  · intro t _ hsz hkeep
    refine ⟨rfl, ⟨by rw [← hR2.1]; exact hsz, fun i q hi hv => ?_⟩, Nat.le_trans hS.1 hsz, fun q h1 h2 => ?_⟩
    · have h4 := hR2.2.2 i q hi hv
      exact h4.kept (hkeep _ h4.lt)
    · rw [hkeep q (Nat.lt_of_lt_of_le h1 hS.1)]
      exact hS.2.1 q h1 h2
end XThrow
