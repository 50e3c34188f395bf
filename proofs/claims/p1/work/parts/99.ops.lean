section XOps
variable {D : va_G} {tc : Nat → ClassId} {b0 : Nat} {ex : Nat → Nat} {L : Nat} {xs : Nat → Int32} {l : Launch}
theorem pair_of (hx : ∀ j, xT ≤ j → ex j < b0) {j1 j2 : Nat} {as : List Value} {h : xH} {b1 b2 : Nat} (hf1 : x_fit (.ref 0 :: as) (x_pr j1).1.2.2.1 = true) (hf2 : x_fit (.ref 114 :: as) (x_pr j2).1.2.2.1 = true) (hw : x_two 12 j1 j2 as h b1 b2) : lw_pair (xu D tc b0 ex L xs) l 12 j1 j2 as h (fun _ mc ms => mc ≤ b1 ∧ ms ≤ b2) := by
  obtain ⟨r1, h1, mc1, ms1, ⟨n1, e1⟩, r, f2, q1, q2, r2, h2, mc2, ms2, ⟨n2, e2⟩, p1, p2, p3⟩ := hw
  subst q1
  subst p1
  exact ⟨r, h1, mc1, ms1, h2, mc2, ms2, f2, x_met (x_hok hx) x_hpl hf1 e1, q2, x_met (x_hok hx) x_hpl hf2 e2, p2, p3⟩
theorem rf_of (hx : ∀ j, xT ≤ j → ex j < b0) {j : Nat} {as : List Value} {h : xH} {k : Int32} {Y : Value → xH → Prop} {b1 b2 : Nat} {f : List Value} (o : h[114]? = some (.inr (20, f))) (hf : x_fit (.ref 114 :: as) (x_pr j).1.2.2.1 = true) (hw : x_rfW j as h k Y b1 b2) : ∃ (v : Value) (h3 : xH) (mc ms : Nat), lw_ref (xu D tc b0 ex L xs) l 12 j as h v k h3 mc ms ∧ Y v h3 ∧ mc ≤ b1 ∧ ms ≤ b2 := by
  obtain ⟨r1, h1, mc1, ms1, ⟨n1, e1⟩, v, f2, q1, q2, r2, h2, mc2, ms2, ⟨n2, e2⟩, p1, p2, p3, p4⟩ := hw
  subst q1
  subst p1
  exact ⟨v, h2, mc1 + mc2, ms1 + ms2, ⟨f, h1, mc1, ms1, f2, mc2, ms2, o, x_met (x_hok hx) x_hpl hf e1, q2, x_met (x_hok hx) x_hpl (by decide +kernel) e2, rfl, rfl⟩, p2, p3, p4⟩
theorem thr_L (hx : ∀ j, xT ≤ j → ex j < b0) {jh j2 : Nat} {hh : List (Nat × Nat × Nat × Nat)} {as : List Value} {V : Value → Prop} {E : Value → Int64 → Prop} {h : xH} {k : Int32} {Y : Value → xH → Prop} {b1 b2 : Nat} {f : List Value} (hk : k ≠ 0) (o : h[114]? = some (.inr (20, f))) (hf : x_fit (.ref 114 :: as) (x_pr j2).1.2.2.1 = true) (hM : x_MetD (xu D tc b0 ex L xs) l (x_mt jh) hh (.ref 0 :: (as ++ [.ref 200])) k h) (hA : x_rfW j2 as h k Y b1 b2) (hB : x_rfW j2 as (h ++ [x_op]) k Y b1 b2) (hY : ∀ v h3, Y v h3 → V v) : lw_thr (xu D tc b0 ex L xs) l 12 jh j2 hh as V E h (fun _ mc ms => mc ≤ 1 + b1 ∧ ms ≤ 6 + b2) := by
  refine Or.inl ⟨k, hk, hM, fun h' hh' => ?_⟩
  rcases hh' with e | e
  · subst e
    obtain ⟨v, h3, mc, ms, q1, q2, q3, q4⟩ := rf_of (D := D) (tc := tc) (L := L) (xs := xs) (l := l) hx o hf hA
    exact ⟨v, h3, mc, ms, q1, hY _ _ q2, Nat.add_le_add_left q3 1, Nat.add_le_add_left q4 6⟩
  · subst e
    obtain ⟨v, h3, mc, ms, q1, q2, q3, q4⟩ := rf_of (D := D) (tc := tc) (L := L) (xs := xs) (l := l) hx (app_at o) hf hB
    exact ⟨v, h3, mc, ms, q1, hY _ _ q2, Nat.add_le_add_left q3 1, Nat.add_le_add_left q4 6⟩
theorem lw_pair_w {u : xPi} {dd j1 j2 : Nat} {as : List Value} {h : xH} {P P' : xH → Nat → Nat → Prop} (hp : ∀ h2 mc ms, P h2 mc ms → P' h2 mc ms) (hg : lw_pair u l dd j1 j2 as h P) : lw_pair u l dd j1 j2 as h P' := by
  obtain ⟨r, h1, mc1, ms1, h2, mc2, ms2, f2, q1, q2, q3, q4⟩ := hg
  exact ⟨r, h1, mc1, ms1, h2, mc2, ms2, f2, q1, q2, q3, hp _ _ _ q4⟩
theorem lw_thr_w {u : xPi} {dd jh j2 : Nat} {hh : List (Nat × Nat × Nat × Nat)} {as : List Value} {V : Value → Prop} {E : Value → Int64 → Prop} {h : xH} {P P' : xH → Nat → Nat → Prop} (hp : ∀ h2 mc ms, P h2 mc ms → P' h2 mc ms) (hg : lw_thr u l dd jh j2 hh as V E h P) : lw_thr u l dd jh j2 hh as V E h P' := by
  rcases hg with ⟨k, h1, h2, h3⟩ | ⟨h1, mc1, ms1, v, w, h3, mc, ms, A, q1, q2, q3, q4, q5, q6, q7⟩
  · refine Or.inl ⟨k, h1, h2, fun h' e => ?_⟩
    obtain ⟨v, h3', mc, ms, q1, q2, q3⟩ := h3 h' e
    exact ⟨v, h3', mc, ms, q1, q2, hp _ _ _ q3⟩
  · exact Or.inr ⟨h1, mc1, ms1, v, w, h3, mc, ms, A, q1, q2, q3, q4, q5, q6, hp _ _ _ q7⟩
theorem i32_le {c : Int32} {b : Nat} (hb : b ≤ 1000000) (h : ¬ Int32.ofNat (b + 1) ≤ c) : ¬ Int32.ofNat b < c := by
  rw [Int32.le_iff_toInt_le, Int32.toInt_ofNat_of_lt (by omega)] at h
  rw [Int32.lt_iff_toInt_lt, Int32.toInt_ofNat_of_lt (by omega)]
  omega
theorem i32_gt {c : Int32} {b : Nat} (hb : b ≤ 1000000) (h : ¬ ¬ c ≤ Int32.ofNat b) : ¬ Int32.ofNat b < c := by
  rw [Int32.le_iff_toInt_le, Int32.toInt_ofNat_of_lt (by omega)] at h
  rw [Int32.lt_iff_toInt_lt, Int32.toInt_ofNat_of_lt (by omega)]
  omega
theorem i32_0 {c : Int32} (h : ¬ c < 1) : ¬ c ≤ 0 := by
  rw [Int32.lt_iff_toInt_lt] at h
  rw [Int32.le_iff_toInt_le]
  have e1 : (1 : Int32).toInt = 1 := by decide
  have e0 : (0 : Int32).toInt = 0 := by decide
  rw [e1] at h
  rw [e0]
  omega
theorem i32_nn {c : Int32} (h : ¬ c < 0) : 0 ≤ c := by
  rw [Int32.lt_iff_toInt_lt] at h
  rw [Int32.le_iff_toInt_le]
  omega
theorem ck_all {f : Nat → Bool} {n : Nat} (h : (List.range n).all f = true) {m : Nat} (hm : m < n) : f m = true := List.all_eq_true.mp h m (List.mem_range.mpr hm)
theorem ck_connect : (List.range 4).all (fun m => x_chk 2000 12 16 314 [.int (Int32.ofNat m)] x_hL 10 100) = true := by decide +kernel
theorem ck_send : (List.range 4).all (fun m => x_chk 2000 12 19 316 [.int (Int32.ofNat m)] x_hL 10 100) = true := by decide +kernel
theorem ck_cut : (List.range 4).all (fun m => x_chk 2000 12 275 468 [.int (Int32.ofNat m)] x_hL 10 100) = true := by decide +kernel
theorem ck_waiting : (List.range 4).all (fun m => x_chk 2000 12 276 469 [.int (Int32.ofNat m)] x_hL 10 100) = true := by decide +kernel
noncomputable def ck_typeF (w : Int64) : Bool := (List.range 9).all (fun m => Nat.beq m 0 || x_chk 2000 12 15 313 [.long w, .int (Int32.ofNat m)] x_hL 10 100)
theorem ck_type (w : Int64) : ck_typeF w = true := x_all ck_typeF (by decide +kernel) w
theorem ck_connection : (List.range 4).all (fun c => (List.range 4).all (fun q => x_chk 2000 12 277 485 [.int (Int32.ofNat c), .int (Int32.ofNat q)] x_hL 10 100)) = true := by decide +kernel
theorem ck_channel : (List.range 4).all (fun c => (List.range 4).all (fun k => Nat.beq k 0 || (List.range 7).all (fun q => x_chk 2000 12 279 486 [.int (Int32.ofNat c), .int (Int32.ofNat k), .int (Int32.ofNat q)] x_hL 10 100))) = true := by decide +kernel
theorem ck_total : (List.range 8).all (fun q => x_chk 2000 12 285 490 [.int (Int32.ofNat q)] x_hL 10 100) = true := by decide +kernel
theorem two_c {j1 j2 : Nat} (hb : ∀ c : Int32, (c < 0 ∨ ¬ c < 0 ∧ 4 ≤ c) → x_two 12 j1 j2 [.int c] x_hL 10 100) (hk : (List.range 4).all (fun m => x_chk 2000 12 j1 j2 [.int (Int32.ofNat m)] x_hL 10 100) = true) (c : Int32) : x_two 12 j1 j2 [.int c] x_hL 10 100 := by
  by_cases h0 : c < 0
  · exact hb c (Or.inl h0)
  by_cases h1 : 4 ≤ c
  · exact hb c (Or.inr ⟨h0, h1⟩)
  obtain ⟨m, -, hm, rfl⟩ := i32_rng (a := 0) (b := 3) (by decide) h0 (i32_le (b := 3) (by decide) h1) (by decide)
  exact x_chk_ok (ck_all hk (by omega))
theorem op_type (w : Int64) (n : Int32) : x_two 12 15 313 [.long w, .int n] x_hL 10 100 := by
  by_cases h0 : n < 1
  · exact tw_type_a h0
  by_cases h1 : 8 < n
  · exact tw_type_b h0 h1
  obtain ⟨m, hm1, hm, rfl⟩ := i32_rng (a := 1) (b := 8) (by decide) h0 h1 (by decide)
  have h2 := ck_all (ck_type w) (m := m) (by omega)
  rw [Bool.or_eq_true] at h2
  rcases h2 with h2 | h2
  · have := Nat.eq_of_beq_eq_true h2
    omega
  · exact x_chk_ok h2
theorem op_connection (c q : Int32) : x_two 12 277 485 [.int c, .int q] x_hL 10 100 := by
  by_cases h0 : c < 0
  · exact tw_connection_b (Or.inl h0)
  by_cases h1 : 4 ≤ c
  · exact tw_connection_b (Or.inr ⟨h0, h1⟩)
  obtain ⟨m, -, hm, rfl⟩ := i32_rng (a := 0) (b := 3) (by decide) h0 (i32_le (b := 3) (by decide) h1) (by decide)
  by_cases g : q = 0 ∨ q = 1 ∨ q = 2 ∨ q = 3
  · have h3 := ck_all ck_connection (m := m) (by omega)
    rcases g with rfl | rfl | rfl | rfl
    · exact x_chk_ok (ck_all h3 (m := 0) (by decide))
    · exact x_chk_ok (ck_all h3 (m := 1) (by decide))
    · exact x_chk_ok (ck_all h3 (m := 2) (by decide))
    · exact x_chk_ok (ck_all h3 (m := 3) (by decide))
  · have g0 : ¬ q = 0 := fun e => g (Or.inl e)
    have g1 : ¬ q = 1 := fun e => g (Or.inr (Or.inl e))
    have g2 : ¬ q = 2 := fun e => g (Or.inr (Or.inr (Or.inl e)))
    have g3 : ¬ q = 3 := fun e => g (Or.inr (Or.inr (Or.inr e)))
    have gc : x_case [(0, 48), (1, 53), (2, 58), (3, 63)] 68 (q) = 68 := by simp only [x_case, g0, g1, g2, g3, if_false]
    have hm' : m = 0 ∨ m = 1 ∨ m = 2 ∨ m = 3 := by omega
    rcases hm' with rfl | rfl | rfl | rfl
    · exact tw_connection_0 gc g2 g0 g1 g3
    · exact tw_connection_1 gc g2 g0 g1 g3
    · exact tw_connection_2 gc g2 g0 g1 g3
    · exact tw_connection_3 gc g2 g0 g1 g3
theorem op_channel (c k q : Int32) : x_two 12 279 486 [.int c, .int k, .int q] x_hL 10 100 := by
  by_cases h0 : c < 0
  · exact tw_channel_b (Or.inl h0)
  by_cases h1 : 4 ≤ c
  · exact tw_channel_b (Or.inr ⟨h0, h1⟩)
  by_cases k0 : k < 1
  · exact tw_channel_x ⟨h0, h1⟩ k0
  by_cases k1 : 3 < k
  · exact tw_channel_y ⟨h0, h1⟩ k0 k1
  by_cases q0 : q < 0
  · exact tw_channel_z ⟨h0, h1⟩ k0 k1 q0
  by_cases q1 : ¬ q ≤ 6
  · exact tw_channel_w ⟨h0, h1⟩ k0 k1 q0 q1
  obtain ⟨m, -, hm, rfl⟩ := i32_rng (a := 0) (b := 3) (by decide) h0 (i32_le (b := 3) (by decide) h1) (by decide)
  obtain ⟨mk, hk1, hk2, rfl⟩ := i32_rng (a := 1) (b := 3) (by decide) k0 k1 (by decide)
  obtain ⟨mq, -, hq, rfl⟩ := i32_rng (a := 0) (b := 6) (by decide) q0 (i32_gt (b := 6) (by decide) q1) (by decide)
  have h3 := ck_all (ck_all ck_channel (m := m) (by omega)) (m := mk) (by omega)
  rw [Bool.or_eq_true] at h3
  rcases h3 with h3 | h3
  · have := Nat.eq_of_beq_eq_true h3
    omega
  · exact x_chk_ok (ck_all h3 (by omega))
theorem op_queue (k q : Int32) : x_two 12 281 487 [.int k, .int q] x_hL 10 100 := by
  by_cases h0 : k < 0
  · exact tw_queue_a h0
  · exact tw_queue_b h0
theorem op_exchange (k q : Int32) : x_two 12 284 489 [.int k, .int q] x_hL 10 100 := by
  by_cases h0 : k < 0
  · exact tw_exchange_a h0
  · exact tw_exchange_b h0
theorem op_total (q : Int32) : x_two 12 285 490 [.int q] x_hL 10 100 := by
  by_cases g : q = 0 ∨ q = 1 ∨ q = 2 ∨ q = 3 ∨ q = 4 ∨ q = 5 ∨ q = 6 ∨ q = 7
  · rcases g with rfl | rfl | rfl | rfl | rfl | rfl | rfl | rfl
    · exact x_chk_ok (ck_all ck_total (m := 0) (by decide))
    · exact x_chk_ok (ck_all ck_total (m := 1) (by decide))
    · exact x_chk_ok (ck_all ck_total (m := 2) (by decide))
    · exact x_chk_ok (ck_all ck_total (m := 3) (by decide))
    · exact x_chk_ok (ck_all ck_total (m := 4) (by decide))
    · exact x_chk_ok (ck_all ck_total (m := 5) (by decide))
    · exact x_chk_ok (ck_all ck_total (m := 6) (by decide))
    · exact x_chk_ok (ck_all ck_total (m := 7) (by decide))
  · have g0 : ¬ q = 0 := fun e => g (Or.inl e)
    have g1 : ¬ q = 1 := fun e => g (Or.inr (Or.inl e))
    have g2 : ¬ q = 2 := fun e => g (Or.inr (Or.inr (Or.inl e)))
    have g3 : ¬ q = 3 := fun e => g (Or.inr (Or.inr (Or.inr (Or.inl e))))
    have g4 : ¬ q = 4 := fun e => g (Or.inr (Or.inr (Or.inr (Or.inr (Or.inl e)))))
    have g5 : ¬ q = 5 := fun e => g (Or.inr (Or.inr (Or.inr (Or.inr (Or.inr (Or.inl e))))))
    have g6 : ¬ q = 6 := fun e => g (Or.inr (Or.inr (Or.inr (Or.inr (Or.inr (Or.inr (Or.inl e)))))))
    have g7 : ¬ q = 7 := fun e => g (Or.inr (Or.inr (Or.inr (Or.inr (Or.inr (Or.inr (Or.inr (e))))))))
    exact tw_total_b (by simp only [x_case, g0, g1, g2, g3, g4, g5, g6, g7, if_false]) (by simp only [x_case, g0, g1, g2, g3, g4, g5, g6, g7, if_false])
theorem hL_0 : ∃ f, x_hL[0]? = some (.inr (0, f)) := ⟨_, rfl⟩
theorem hL_114 : ∃ f, x_hL[114]? = some (.inr (20, f)) := ⟨_, rfl⟩
theorem hL_len : x_hL.length = 201 := by decide +kernel
theorem hL_lt : x_hL.length < xT := by rw [hL_len]; decide
theorem thr_R (hx : ∀ j, xT ≤ j → ex j < b0) {jh j2 : Nat} {hh : List (Nat × Nat × Nat × Nat)} {as : List Value} {V : Value → Prop} {E Y : Value → Int64 → Prop} {h : xH} {b1 b2 : Nat} (hf : x_fit (.ref 114 :: as) (x_pr j2).1.2.2.1 = true)
    (hN : ∀ {n : Nat} {h1 : xH} {mc ms : Nat}, x_run x_pr n 12 jh 0 (lv_args 0 (.ref 0 :: (as ++ [.ref 200]))) [] h 0 0 = some (some (.int 0), h1, mc, ms) → Met l (x_mt jh).1 (x_wsW (xu D tc b0 ex L xs) (x_mt jh) hh) (x_rm 12 mc ms) (x_Pc (xu D tc b0 ex L xs) (.ref 0 :: (as ++ [.ref 200])) h) (x_Qc (xu D tc b0 ex L xs) (some (.int 0)) h1) mc ms (xp_A (xu D tc b0 ex L xs)))
    (hw : x_norm jh j2 as h Y b1 b2) (hV : ∀ v w, Y v w → V v) (hE : ∀ v w, Y v w → E v w) : lw_thr (xu D tc b0 ex L xs) l 12 jh j2 hh as V E h (fun _ mc ms => mc ≤ b1 + b1 ∧ ms ≤ b2 + b2) := by
  obtain ⟨r1, h1, mc1, ms1, ⟨n1, e1⟩, q1, ⟨f, q2⟩, q3, q4, q5⟩ := hw
  subst q1
  obtain ⟨v, h3, mc, ms, p1, ⟨A, p2, p3⟩, p4, p5⟩ := rf_of (D := D) (tc := tc) (L := L) (xs := xs) (l := l) hx q2 hf q5
  exact Or.inr ⟨h1, mc1, ms1, v, x_lng A 0, h3, mc, ms, A, hN e1, p1, hV _ _ p3, p2, rfl, hE _ _ p3, Nat.add_le_add q3 p4, Nat.add_le_add q4 p5⟩
theorem op_read (hx : ∀ j, xT ≤ j → ex j < b0) (hl : l.stackTraces = false) (c n : Int32) : lw_thr (xu D tc b0 ex L xs) l 12 491 470 [(0, 9, 12, 13), (0, 9, 16, 15)] [.int c, .int n] (fun v => ∃ w, v = .long w) (fun v w => v = .long w) x_hL (fun _ mc ms => mc ≤ 1 + 10 ∧ ms ≤ 6 + 100) := by
  obtain ⟨f0, o0⟩ := hL_0
  obtain ⟨f1, o1⟩ := hL_114
  by_cases h0 : n < 1
  · obtain ⟨lv, fl, N, e⟩ := up_read_a (c := c) h0
    exact thr_L hx (by decide) o1 rfl (xhd_r2 hx hl o0 hL_lt e) (rf_read_aA h0) (rf_read_aB h0) (fun v _ e => ⟨0, e⟩)
  by_cases h1 : 8 < n
  · obtain ⟨lv, fl, N, e⟩ := up_read_b (c := c) h0 h1
    exact thr_L hx (by decide) o1 rfl (xhd_r2 hx hl o0 hL_lt e) (rf_read_bA h0 h1) (rf_read_bB h0 h1) (fun v _ e => ⟨0, e⟩)
  by_cases hb : c < 0 ∨ ¬ c < 0 ∧ 4 ≤ c
  · obtain ⟨lv, fl, N, e⟩ := up_read_c hb h0 h1
    exact thr_L hx (by decide) o1 rfl (xhd_r2 hx hl o0 hL_lt e) (rf_read_cA hb h0 h1) (rf_read_cB hb h0 h1) (fun v _ e => ⟨0, e⟩)
  have c0 : ¬ c < 0 := fun e => hb (Or.inl e)
  have c1 : ¬ 4 ≤ c := fun e => hb (Or.inr ⟨c0, e⟩)
  obtain ⟨m, -, hm, rfl⟩ := i32_rng (a := 0) (b := 3) (by decide) c0 (i32_le (b := 3) (by decide) c1) (by decide)
  have h2 := i32_0 h0
  have hm' : m = 0 ∨ m = 1 ∨ m = 2 ∨ m = 3 := by omega
  rcases hm' with rfl | rfl | rfl | rfl
  · obtain ⟨lv, fl, N, e⟩ := up_read_0 h0 h1 h2
    exact thr_L hx (by decide) o1 rfl (xhd_r1 hx hl o0 hL_lt e) (rf_read_0A h0 h1 h2) (rf_read_0B h0 h1 h2) (fun v _ e => ⟨0, e⟩)
  · obtain ⟨lv, fl, N, e⟩ := up_read_1 h0 h1 h2
    exact thr_L hx (by decide) o1 rfl (xhd_r1 hx hl o0 hL_lt e) (rf_read_1A h0 h1 h2) (rf_read_1B h0 h1 h2) (fun v _ e => ⟨0, e⟩)
  · obtain ⟨lv, fl, N, e⟩ := up_read_2 h0 h1 h2
    exact thr_L hx (by decide) o1 rfl (xhd_r1 hx hl o0 hL_lt e) (rf_read_2A h0 h1 h2) (rf_read_2B h0 h1 h2) (fun v _ e => ⟨0, e⟩)
  · obtain ⟨lv, fl, N, e⟩ := up_read_3 h0 h1 h2
    exact thr_L hx (by decide) o1 rfl (xhd_r1 hx hl o0 hL_lt e) (rf_read_3A h0 h1 h2) (rf_read_3B h0 h1 h2) (fun v _ e => ⟨0, e⟩)
theorem op_tick (hx : ∀ j, xT ≤ j → ex j < b0) (hl : l.stackTraces = false) (n : Int32) : lw_thr (xu D tc b0 ex L xs) l 12 492 471 [(0, 9, 12, 21)] [.int n] (fun v => ∃ w, v = .int w) (fun v w => ∃ i : Int32, v = .int i ∧ i.toInt64 = w) x_hL (fun _ mc ms => mc ≤ 20 ∧ ms ≤ 200) := by
  obtain ⟨f0, o0⟩ := hL_0
  obtain ⟨f1, o1⟩ := hL_114
  by_cases h0 : n < 1
  · obtain ⟨lv, fl, N, e⟩ := up_tick_a h0
    exact lw_thr_w (fun _ _ _ h => ⟨by omega, by omega⟩) (thr_L hx (by decide) o1 rfl (xhd_t1 hx hl o0 hL_lt e) (rf_tick_aA h0) (rf_tick_aB h0) (fun v _ e => ⟨0, e⟩))
  by_cases h1 : ¬ n ≤ 100
  · obtain ⟨lv, fl, N, e⟩ := up_tick_b h0 h1
    exact lw_thr_w (fun _ _ _ h => ⟨by omega, by omega⟩) (thr_L hx (by decide) o1 rfl (xhd_t1 hx hl o0 hL_lt e) (rf_tick_bA h0 h1) (rf_tick_bB h0 h1) (fun v _ e => ⟨0, e⟩))
  obtain ⟨m, hm1, hm, rfl⟩ := i32_rng (a := 1) (b := 100) (by decide) h0 (i32_gt (b := 100) (by decide) h1) (by decide)
  exact thr_R hx rfl (fun e => xhn_t hx e) (tk_all hm1 hm) (fun v w h => by obtain ⟨i, h1, _⟩ := h; exact ⟨i, h1⟩) (fun v w h => h)
theorem op_crash (hx : ∀ j, xT ≤ j → ex j < b0) (hl : l.stackTraces = false) (n : Int32) : lw_thr (xu D tc b0 ex L xs) l 12 493 482 [(0, 9, 12, 21)] [.int n] (fun v => ∃ w, v = .int w) (fun v w => ∃ i : Int32, v = .int i ∧ i.toInt64 = w) x_hL (fun _ mc ms => mc ≤ 20 ∧ ms ≤ 200) := by
  obtain ⟨f0, o0⟩ := hL_0
  obtain ⟨f1, o1⟩ := hL_114
  by_cases h0 : n < 0
  · obtain ⟨lv, fl, N, e⟩ := up_crash h0
    exact lw_thr_w (fun _ _ _ h => ⟨by omega, by omega⟩) (thr_L hx (by decide) o1 rfl (xhd_c1 hx hl o0 hL_lt e) (rf_crashA h0) (rf_crashB h0) (fun v _ e => ⟨0, e⟩))
  exact thr_R hx rfl (fun e => xhn_c hx e) (cr_all hL_len h0) (fun v w h => by obtain ⟨i, h1, _⟩ := h; exact ⟨i, h1⟩) (fun v w h => h)
theorem good0 (hx : ∀ j, xT ≤ j → ex j < b0) (hl : l.stackTraces = false) : lw_Good (xu D tc b0 ex L xs) l 12 xs 0 x_hL (fun _ mc ms => mc ≤ 20 ∧ ms ≤ 200) := by
  have w : ∀ (h2 : xH) (mc ms : Nat), (mc ≤ 10 ∧ ms ≤ 100) → (mc ≤ 20 ∧ ms ≤ 200) := fun _ _ _ h => ⟨by omega, by omega⟩
  refine ⟨fun _ => lw_pair_w w (pair_of hx rfl rfl (op_type _ _)), fun _ => lw_pair_w w (pair_of hx rfl rfl (two_c (fun c hb => tw_connect_b hb) ck_connect _)), fun _ => lw_pair_w w (pair_of hx rfl rfl (two_c (fun c hb => tw_send_b hb) ck_send _)), fun _ => lw_pair_w w (pair_of hx rfl rfl (two_c (fun c hb => tw_cut_b hb) ck_cut _)), fun _ => lw_pair_w w (pair_of hx rfl rfl (two_c (fun c hb => tw_waiting_b hb) ck_waiting _)), fun _ => lw_thr_w (fun _ _ _ h => ⟨by omega, by omega⟩) (op_read hx hl _ _), fun _ => op_tick hx hl _, fun _ => op_crash hx hl _, fun _ => lw_pair_w w (pair_of hx rfl rfl (op_connection _ _)), fun _ => lw_pair_w w (pair_of hx rfl rfl (op_channel _ _ _)), fun _ => lw_pair_w w (pair_of hx rfl rfl (op_queue _ _)), fun _ => lw_pair_w w (pair_of hx rfl rfl (op_exchange _ _)), fun _ => lw_pair_w w (pair_of hx rfl rfl (op_total _)), fun _ => ⟨Nat.zero_le _, Nat.zero_le _⟩⟩
end XOps
