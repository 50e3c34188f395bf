section XN
section Cx
variable {u : xPi} {p : Program} {l : Launch} {e : Env} {R : Room} {s : State} {m : MethodId} {args : Array Value} {below : List Frame} {meth : Method} {c : Code} {H : Heap} {locs : List Loc} {cells slots mc ms : Nat} {Q : State → Prop} {pc : Nat} {ls : Array Slot} {rest st0 : List Value} {a : Array Value} {rv : Option Value} {h1 : xH}
theorem x_callx (hr : va_Run p l e R s m args below meth c H locs cells slots mc ms (F0 m pc ls st0) rest (x_Qc u rv h1 a) (xp_A u)) (hS : va_S (xp_A u) s.heap H locs)
    (kk : ∀ (H1 : Heap) (locs1 : List Loc), x_R u h1 H1 → va_S (xp_A u) s.heap H1 locs1 → W p l e R s m args below meth c H1 locs1 (cells + mc) (slots + ms) Q (F0 m (pc + 3) ls ((rv.map (x_v (xp_ad u))).toList ++ rest))) : W p l e R s m args below meth c H locs cells slots Q (F0 m pc ls st0) := by
  intro T hT X
  obtain ⟨v, st₀, t, T', L, h0, X', hL, e1, e2, ⟨⟨hv, hb⟩, hz, hk⟩, st⟩ := hr T hT X
  cases hv
  rw [h0] at hz hk
  obtain ⟨t2, a1, b1⟩ := kk T'.heap (locs ++ L) (by rw [e1]; exact hb)
    ⟨Nat.le_trans hS.1 (by rw [e1]; exact hz), fun q h1 h2 => by rw [e1, hk q (Nat.lt_of_lt_of_le h1 hS.1) h2]; exact hS.2.1 q h1 h2, fun q hq => by
      rcases List.mem_append.mp hq with h | h
      · exact hS.2.2 q h
      · exact hL q h⟩ T' rfl X'
  exact ⟨t2, st t2 a1, b1⟩
theorem x_blind {as : List Value} {h : xH} : FrameBlind (x_Pc u as h) := by
  intro a U g mk q
  obtain ⟨q0, q1, q2⟩ := q
  exact ⟨q0, x_Env_calling q1, q2⟩
theorem x_pre {as : List Value} {h : xH} (hE : x_Env u s) (hS : va_S (xp_A u) s.heap H locs) (hR : x_R u h H) : ∀ U : State, U.heap = H → s.WarmedH U.vm → x_Pc u as h (as.map (x_v (xp_ad u))).toArray U :=
  fun U hU hW => ⟨rfl, x_Env_moved hS hU hW hE, by rw [hU]; exact hR⟩
end Cx
variable {u : xPi} {mt : Nat → xM} {y : xM} {pcs : Nat → Nat} {k k1 kt : Nat}
theorem x_good {y1 : xM} (hG : ∀ w ∈ xp_G u, goodWord w = true) (hc : Cond.code y1.1 y1.2.1 y1.2.2.1 y1.2.2.2 ∈ xp_G u) : GoodIn (xp_G u) (x_ws u y1) := by
  intro w hw
  rcases List.mem_cons.mp hw with e | hw
  · subst e
    exact ⟨hc, good_of_word (hG _ hc)⟩
  · exact ⟨hw, good_of_word (hG _ hw)⟩
/-- what every call asks of its callee -/
def x_jok (u : xPi) (y : xM) (n : Nat) : Prop := Cond.code y.1 y.2.1 y.2.2.1 y.2.2.2 ∈ xp_G u ∧ Cond.initialized y.1.cls ∈ xp_G u ∧ y.1.cls ≠ "java/lang/invoke/MethodHandle" ∧ y.1.cls ≠ "java/lang/invoke/VarHandle" ∧ (parseMethodDescriptor y.1.desc).map (fun d => d.parameters.length) = some n ∧ y.2.2.1 + 19 ≤ 64
theorem x_split {st r : List Value} {v : Value} {n : Nat} (h : st.drop n = v :: r) : st = st.take n ++ v :: r ∧ (st.take n).length = n := by
  have h1 : st = st.take n ++ st.drop n := (List.take_append_drop n st).symm
  refine ⟨by rw [← h]; exact h1, ?_⟩
  rw [List.length_take]
  have : 0 < (st.drop n).length := by rw [h]; simp
  rw [List.length_drop] at this
  omega
/-- an instance method by the receiver's class: tab tells the method's number for each class -/
def xi_callV (k1 n : Nat) (tab : List (Nat × Nat)) : xI := fun lv st h nc ns => match st.drop n with
  | .ref a :: r => match h[a]? with
    | some (.inr z) => match x_look tab z.1 with
      | some j => if (r.map fun v => v.category).sum ≤ 8 then some (.inr (.inr (j, .ref a :: (st.take n).reverse, (k1, lv, r, h, nc, ns)))) else none
      | none => none
    | _ => none
  | _ => none
/-- the receiver's class is the one that has the method -/
def x_vok (u : xPi) (mt : Nat → xM) (own : String) (idx n : Nat) (q : Nat × Nat) : Prop := ∃ (C : String) (T : u_T) (N : Nat), (xp_cl u)[q.1]? = some (C, T, N) ∧ x_jok u (mt q.2) n ∧ Cond.instanceMethod (mt q.2).1 ∈ xp_G u ∧
  ((Cond.selects C (mt q.2).1 (mt q.2).1 ∈ xp_G u ∧ (Cond.methodLink own idx (mt q.2).1 ∈ xp_G u ∨ ∃ host, Cond.methodLinkNest own idx (mt q.2).1 host ∈ xp_n u)) ∨
   ∃ (x : MethodName) (owner : String) (b0 : ByteArray) (m0 : Nat) (r0 : Option FieldType), Cond.methodLink own idx x ∈ xp_G u ∧ Cond.sameMethod x.cls owner x.name x.desc ∈ xp_G u ∧ Cond.instanceMethod ⟨owner, x.name, x.desc⟩ ∈ xp_G u ∧ Cond.selects C x (mt q.2).1 ∈ xp_G u ∧ Cond.code ⟨owner, x.name, x.desc⟩ b0 m0 r0 ∈ xp_G u ∧ owner ≠ "java/lang/invoke/MethodHandle" ∧ owner ≠ "java/lang/invoke/VarHandle" ∧ (parseMethodDescriptor x.desc).map (fun d => d.parameters.length) = some n)
theorem xo_callV {idx n : Nat} {tab : List (Nat × Nat)} (hG : ∀ w ∈ xp_G u, goodWord w = true) (hv : ∀ q ∈ tab, x_vok u mt y.1.cls idx n q) (hd : decode y.2.1 (pcs k) = .ok (.invokevirtual idx, 3)) (hn : pcs k1 = pcs k + 3) : x_ok u mt y pcs k (xi_callV k1 n tab) := by
  intro p l e R s m args below meth c hc hf0 hl0 lv st h nc ns o ho
  unfold xi_callV at ho
  split at ho
  · rename_i a r hst
    split at ho
    · rename_i z hz
      split at ho
      · rename_i j hj
        split at ho
        · rename_i hroom
          cases ho
          refine x_cl (Nat.le_refl _) (Nat.le_refl _) (fun Q d rv h1 mc ms hM hf1 hf2 hc1 hc2 hK ls H locs hl hR hS => ?_)
          obtain ⟨C, T, N, g1, ⟨j1, j2, j3, j4, j5, j6⟩, g3, g4⟩ := hv _ (x_look_mem hj)
          dsimp only at g1 j1 j2 j3 j4 j5 j6 g3 g4
          have hrl : 8 + ((mt j).2.2.1 + 11) + (x_rm d mc ms).locals ≤ R.locals := by
            show 8 + ((mt j).2.2.1 + 11) + 64 * (d + 1) ≤ R.locals
            omega
          have hlen : ((st.take n).reverse.map (x_v (xp_ad u))).length = n := by rw [List.length_map, List.length_reverse]; exact (x_split hst).2
          have hE := hc.2.2.2.2.2.2.2.2
          have hts := hc.2.2.2.2.1
          obtain ⟨hst1, hst2⟩ := x_split hst
          have hrc := va_recv (q0 := 0) hE.2.2.2.2.1 (x_P1 hR hz trivial) g1 rfl
          have hstk : st.map (x_v (xp_ad u)) = (((st.take n).reverse.map (x_v (xp_ad u))).reverse) ++ .ref (xp_ad u a) :: r.map (x_v (xp_ad u)) := by
            conv => lhs; rw [hst1]
            simp [x_v]
          have hroom' : 2 * (F0 m (pcs k) ls (st.map (x_v (xp_ad u)))).monitorRoom + ((r.map (x_v (xp_ad u))).map fun v => v.category).sum ≤ 8 := by
            refine lv_room ?_
            rw [List.map_map]
            rw [show (fun v : Value => v.category) ∘ x_v (xp_ad u) = (fun v : Value => v.category) from funext (fun v => x_cat _ v)]
            exact hroom
          rcases g4 with ⟨gs, gl | ⟨host, gl⟩⟩ | ⟨x, owner, b0, m0, r0, o1, o2, o3, o4, o5, o6, o7, o8⟩
          · refine x_callx (va_runV (As := (st.take n).reverse.map (x_v (xp_ad u))) ⟨hc.1, hc.2.1, hc.2.2.1, hc.2.2.2.1, hts⟩ hM ⟨callB_of n hts (x_good hG j1) rfl rfl rfl (hts _ j2) (hts _ gl) ⟨j3, j4, j5⟩ ⟨hf1, hrl⟩, hts _ g3, hts _ gs⟩ ⟨x_blind, hrc, x_pre hE hS hR⟩ rfl hlen hl.1 hstk hroom' hd ⟨hc1, hc2⟩) hS (fun H1 locs1 hR1 hS1 => ?_)
            have hW := hK ls H1 locs1 hl hR1 hS1
            rw [hn] at hW
            rw [List.map_append] at hW
            rw [show rv.toList.map (x_v (xp_ad u)) = (rv.map (x_v (xp_ad u))).toList by cases rv <;> rfl] at hW
            exact hW
          · refine x_callx (va_runVN (As := (st.take n).reverse.map (x_v (xp_ad u))) ⟨hc.1, hc.2.1, hc.2.2.1, hc.2.2.2.1, hts⟩ hM ⟨va_cnB n hts (x_good hG j1) rfl rfl rfl (hE.2.2.1 _ gl).2 (hts _ j2) ⟨j3, j4, j5⟩ ⟨hf1, hrl⟩, hts _ g3, hts _ gs⟩ ⟨x_blind, hrc, x_pre hE hS hR⟩ rfl hlen hl.1 hstk hroom' hd ⟨hc1, hc2⟩) hS (fun H1 locs1 hR1 hS1 => ?_)
            have hW := hK ls H1 locs1 hl hR1 hS1
            rw [hn] at hW
            rw [List.map_append] at hW
            rw [show rv.toList.map (x_v (xp_ad u)) = (rv.map (x_v (xp_ad u))).toList by cases rv <;> rfl] at hW
            exact hW
          · have hgo : GoodIn (xp_G u) (va_wsO y.1.cls idx C owner x (mt j).1 (x_ws u (mt j))) := by
              intro w hw
              have hin : ∀ w ∈ xp_G u, w ∈ xp_G u ∧ ((w.onTables && w.keeps) = true ∨ ∃ ty, w = .arrayClass ty) := fun w hw => ⟨hw, good_of_word (hG _ hw)⟩
              unfold va_wsO at hw
              rcases List.mem_append.mp hw with hw | hw
              · simp only [List.mem_cons, List.not_mem_nil, or_false] at hw
                rcases hw with rfl | rfl | rfl | rfl | rfl | rfl
                · exact hin _ o1
                · exact hin _ o2
                · exact hin _ o3
                · exact hin _ o4
                · exact hin _ g3
                · exact hin _ j2
              · exact x_good hG j1 w hw
            refine x_callx (va_runU (As := (st.take n).reverse.map (x_v (xp_ad u))) ⟨hc.1, hc.2.1, hc.2.2.1, hc.2.2.2.1, hts⟩ hM (va_cwO n hts hgo rfl rfl rfl o5 ⟨o6, o7, o8⟩ ⟨hf1, hrl⟩) ⟨x_blind, hrc, x_pre hE hS hR⟩ rfl hlen hl.1 hstk hroom' hd ⟨hc1, hc2⟩) hS (fun H1 locs1 hR1 hS1 => ?_)
            have hW := hK ls H1 locs1 hl hR1 hS1
            rw [hn] at hW
            rw [List.map_append] at hW
            rw [show rv.toList.map (x_v (xp_ad u)) = (rv.map (x_v (xp_ad u))).toList by cases rv <;> rfl] at hW
            exact hW
        · cases ho
      · cases ho
    · cases ho
  · cases ho
/-- a static method -/
def xi_callS (k1 n j : Nat) : xI := fun lv st h nc ns => if n ≤ st.length ∧ ((st.drop n).map fun v => v.category).sum ≤ 8 then some (.inr (.inr (j, (st.take n).reverse, (k1, lv, st.drop n, h, nc, ns)))) else none
theorem xo_callS {idx n j : Nat} (hG : ∀ w ∈ xp_G u, goodWord w = true) (hj : x_jok u (mt j) n) (hs : Cond.static (mt j).1 ∈ xp_G u) (hlk : Cond.methodLink y.1.cls idx (mt j).1 ∈ xp_G u ∨ ∃ host, Cond.methodLinkNest y.1.cls idx (mt j).1 host ∈ xp_n u) (hd : decode y.2.1 (pcs k) = .ok (.invokestatic idx, 3)) (hn : pcs k1 = pcs k + 3) : x_ok u mt y pcs k (xi_callS k1 n j) := by
  intro p l e R s m args below meth c hc hf0 hl0 lv st h nc ns o ho
  unfold xi_callS at ho
  split at ho
  · rename_i hz
    cases ho
    refine x_cl (Nat.le_refl _) (Nat.le_refl _) (fun Q d rv h1 mc ms hM hf1 hf2 hc1 hc2 hK ls H locs hl hR hS => ?_)
    obtain ⟨j1, j2, j3, j4, j5, j6⟩ := hj
    have hE := hc.2.2.2.2.2.2.2.2
    have hts := hc.2.2.2.2.1
    have hrl : 8 + ((mt j).2.2.1 + 11) + (x_rm d mc ms).locals ≤ R.locals := by
      show 8 + ((mt j).2.2.1 + 11) + 64 * (d + 1) ≤ R.locals
      omega
    have hlen : ((st.take n).reverse.map (x_v (xp_ad u))).length = n := by rw [List.length_map, List.length_reverse, List.length_take]; omega
    have hstk : st.map (x_v (xp_ad u)) = (((st.take n).reverse.map (x_v (xp_ad u))).reverse) ++ (st.drop n).map (x_v (xp_ad u)) := by
      conv => lhs; rw [← List.take_append_drop n st]
      simp
    have hroom' : 2 * (F0 m (pcs k) ls (st.map (x_v (xp_ad u)))).monitorRoom + (((st.drop n).map (x_v (xp_ad u))).map fun v => v.category).sum ≤ 8 := by
      refine lv_room ?_
      rw [List.map_map]
      rw [show (fun v : Value => v.category) ∘ x_v (xp_ad u) = (fun v : Value => v.category) from funext (fun v => x_cat _ v)]
      exact hz.2
    have fin : ∀ (H1 : Heap) (locs1 : List Loc), x_R u h1 H1 → va_S (xp_A u) s.heap H1 locs1 → W p l e R s m args below meth c H1 locs1 (nc + mc) (ns + ms) Q (F0 m (pcs k + 3) ls ((rv.map (x_v (xp_ad u))).toList ++ (st.drop n).map (x_v (xp_ad u)))) := by
      intro H1 locs1 hR1 hS1
      have hW := hK ls H1 locs1 hl hR1 hS1
      rw [hn] at hW
      rw [List.map_append] at hW
      rw [show rv.toList.map (x_v (xp_ad u)) = (rv.map (x_v (xp_ad u))).toList by cases rv <;> rfl] at hW
      exact hW
    rcases hlk with gl | ⟨host, gl⟩
    · exact x_callx (va_runS (As := (st.take n).reverse.map (x_v (xp_ad u))) ⟨hc.1, hc.2.1, hc.2.2.1, hc.2.2.2.1, hts⟩ hM ⟨callB_of n hts (x_good hG j1) rfl rfl rfl (hts _ j2) (hts _ gl) ⟨j3, j4, j5⟩ ⟨hf1, hrl⟩, hts _ hs⟩ ⟨x_blind, x_pre hE hS hR⟩ rfl hlen hl.1 hstk hroom' hd ⟨hc1, hc2⟩) hS fin
    · exact x_callx (va_runSN (As := (st.take n).reverse.map (x_v (xp_ad u))) ⟨hc.1, hc.2.1, hc.2.2.1, hc.2.2.2.1, hts⟩ hM ⟨va_cnB n hts (x_good hG j1) rfl rfl rfl (hE.2.2.1 _ gl).2 (hts _ j2) ⟨j3, j4, j5⟩ ⟨hf1, hrl⟩, hts _ hs, trivial⟩ ⟨x_blind, x_pre hE hS hR⟩ rfl hlen hl.1 hstk hroom' hd ⟨hc1, hc2⟩) hS fin
  · cases ho
/-- a constructor -/
def xi_callI (k1 n j : Nat) : xI := fun lv st h nc ns => match st.drop n with
  | .ref a :: r => if (r.map fun v => v.category).sum ≤ 8 then some (.inr (.inr (j, .ref a :: (st.take n).reverse, (k1, lv, r, h, nc, ns)))) else none
  | _ => none
theorem xo_callI {idx n j : Nat} (hG : ∀ w ∈ xp_G u, goodWord w = true) (hj : x_jok u (mt j) n) (hr0 : (mt j).2.2.2 = none) (hs : Cond.instanceMethod (mt j).1 ∈ xp_G u) (hi : (mt j).1.name = "<init>") (hlk : Cond.methodLink y.1.cls idx (mt j).1 ∈ xp_G u ∨ ∃ host, Cond.methodLinkNest y.1.cls idx (mt j).1 host ∈ xp_n u) (hd : decode y.2.1 (pcs k) = .ok (.invokespecial idx, 3)) (hn : pcs k1 = pcs k + 3) : x_ok u mt y pcs k (xi_callI k1 n j) := by
  intro p l e R s m args below meth c hc hf0 hl0 lv st h nc ns o ho
  unfold xi_callI at ho
  split at ho
  · rename_i a r hst
    split at ho
    · rename_i hroom
      cases ho
      refine x_cl (Nat.le_refl _) (Nat.le_refl _) (fun Q d rv h1 mc ms hM hf1 hf2 hc1 hc2 hK ls H locs hl hR hS => ?_)
      obtain ⟨j1, j2, j3, j4, j5, j6⟩ := hj
      have hE := hc.2.2.2.2.2.2.2.2
      have hts := hc.2.2.2.2.1
      have hrl : 8 + ((mt j).2.2.1 + 11) + (x_rm d mc ms).locals ≤ R.locals := by
        show 8 + ((mt j).2.2.1 + 11) + 64 * (d + 1) ≤ R.locals
        omega
      obtain ⟨hst1, hst2⟩ := x_split hst
      have hlen : ((st.take n).reverse.map (x_v (xp_ad u))).length = n := by rw [List.length_map, List.length_reverse]; exact hst2
      have hstk : st.map (x_v (xp_ad u)) = (((st.take n).reverse.map (x_v (xp_ad u))).reverse) ++ .ref (xp_ad u a) :: r.map (x_v (xp_ad u)) := by
        conv => lhs; rw [hst1]
        simp [x_v]
      have hroom' : 2 * (F0 m (pcs k) ls (st.map (x_v (xp_ad u)))).monitorRoom + ((r.map (x_v (xp_ad u))).map fun v => v.category).sum ≤ 8 := by
        refine lv_room ?_
        rw [List.map_map]
        rw [show (fun v : Value => v.category) ∘ x_v (xp_ad u) = (fun v : Value => v.category) from funext (fun v => x_cat _ v)]
        exact hroom
      have hwj : x_ws u (mt j) = Cond.code (mt j).1 (mt j).2.1 (mt j).2.2.1 none :: xp_G u := by unfold x_ws; rw [hr0]
      have fin : ∀ (H1 : Heap) (locs1 : List Loc), x_R u h1 H1 → va_S (xp_A u) s.heap H1 locs1 → W p l e R s m args below meth c H1 locs1 (nc + mc) (ns + ms) Q (F0 m (pcs k + 3) ls ((rv.map (x_v (xp_ad u))).toList ++ r.map (x_v (xp_ad u)))) := by
        intro H1 locs1 hR1 hS1
        have hW := hK ls H1 locs1 hl hR1 hS1
        rw [hn] at hW
        rw [List.map_append] at hW
        rw [show rv.toList.map (x_v (xp_ad u)) = (rv.map (x_v (xp_ad u))).toList by cases rv <;> rfl] at hW
        exact hW
      rcases hlk with gl | ⟨host, gl⟩
      · exact x_callx (va_runI (As := (st.take n).reverse.map (x_v (xp_ad u))) ⟨hc.1, hc.2.1, hc.2.2.1, hc.2.2.2.1, hts⟩ hM ⟨callB_of n hts (x_good hG j1) hwj rfl rfl (hts _ j2) (hts _ gl) ⟨j3, j4, j5⟩ ⟨hf1, hrl⟩, hi, hts _ hs⟩ ⟨x_blind, x_pre hE hS hR⟩ rfl hlen hl.1 hstk hroom' hd ⟨hc1, hc2⟩) hS fin
      · exact x_callx (va_runIN (As := (st.take n).reverse.map (x_v (xp_ad u))) ⟨hc.1, hc.2.1, hc.2.2.1, hc.2.2.2.1, hts⟩ hM ⟨va_cnB n hts (x_good hG j1) hwj rfl rfl (hE.2.2.1 _ gl).2 (hts _ j2) ⟨j3, j4, j5⟩ ⟨hf1, hrl⟩, hi, hts _ hs⟩ ⟨x_blind, x_pre hE hS hR⟩ rfl hlen hl.1 hstk hroom' hd ⟨hc1, hc2⟩) hS fin
    · cases ho
  · cases ho
/-- Object's own constructor does nothing -/
def xi_obj (k1 : Nat) : xI := fun lv st h nc ns => match st with
  | .ref _ :: r => if (r.map fun v => v.category).sum + 12 ≤ 64 then some (.inl (k1, lv, r, h, nc, ns)) else none
  | _ => none
theorem xo_obj {idx : Nat} (h1 : Cond.methodLink y.1.cls idx Lib.objectInit ∈ xp_G u) (h2 : Cond.instanceMethod Lib.objectInit ∈ xp_G u) (h3 : Cond.code Lib.objectInit ⟨#[0xb1]⟩ 1 none ∈ xp_G u) (hd : decode y.2.1 (pcs k) = .ok (.invokespecial idx, 3)) (hn : pcs k1 = pcs k + 3) : x_ok u mt y pcs k (xi_obj k1) := by
  intro p l e R s m args below meth c hc hf0 hl0 lv st h nc ns o ho
  unfold xi_obj at ho
  split at ho
  · rename_i a r
    split at ho
    · rename_i hz
      cases ho
      refine x_go (Nat.le_refl _) (Nat.le_refl _) (fun Q _ _ hK ls H locs hl hR hS => ?_)
      have hts := hc.2.2.2.2.1
      refine W.objInit hc.1 hc.2.1 hc.2.2.2.1 (hts _ h1) (hts _ h2) (hts _ h3) rfl (by rw [hc.2.2.1]; exact hl.1) rfl hd hf0 ?_ ?_
      · have hrr : 2 * (F0 m (pcs k) ls (Value.ref (xp_ad u a) :: r.map (x_v (xp_ad u)))).monitorRoom = 0 := rfl
        show 2 * (F0 m (pcs k) ls (Value.ref (xp_ad u a) :: r.map (x_v (xp_ad u)))).monitorRoom + ((r.map (x_v (xp_ad u))).map fun v => v.category).sum + 12 ≤ R.locals
        rw [hrr, List.map_map, show (fun v : Value => v.category) ∘ x_v (xp_ad u) = (fun v : Value => v.category) from funext (fun v => x_cat _ v)]
        omega
      · have hW := hK ls H locs hl hR hS
        rw [hn] at hW
        exact hW
    · cases ho
  · cases ho
end XN
