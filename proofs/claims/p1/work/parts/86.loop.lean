section XLoop
variable {D : va_G} {tc : Nat → ClassId} {b0 : Nat} {ex : Nat → Nat} {L : Nat} {xs : Nat → Int32}
variable {p : Program} {l : Launch} {e : Env} {R : Room} {s : State} {m : MethodId} {args : Array Value} {below : List Frame} {meth : Method} {c : Code} {Q : State → Prop}
/-- what one pass of the law asks of the two halls -/
def lw_Good (u : xPi) (l : Launch) (dd : Nat) (xs : Nat → Int32) (n : Nat) (h : xH) (P : xH → Nat → Nat → Prop) : Prop :=
  (xs n &&& 15 = 0 → lw_pair u l dd 15 313 [.long (lw_w (xs (n + 1)) (xs (n + 2))), .int (xs (n + 3))] h P) ∧
  (xs n &&& 15 = 1 → lw_pair u l dd 16 314 [.int (xs (n + 1))] h P) ∧
  (xs n &&& 15 = 2 → lw_pair u l dd 19 316 [.int (xs (n + 1))] h P) ∧
  (xs n &&& 15 = 3 → lw_pair u l dd 275 468 [.int (xs (n + 1))] h P) ∧
  (xs n &&& 15 = 4 → lw_pair u l dd 276 469 [.int (xs (n + 1))] h P) ∧
  (xs n &&& 15 = 5 → lw_thr u l dd 491 470 [(0, 9, 12, 13), (0, 9, 16, 15)] [.int (xs (n + 1)), .int (xs (n + 2))] (fun v => ∃ w, v = .long w) (fun v w => v = .long w) h P) ∧
  (xs n &&& 15 = 6 → lw_thr u l dd 492 471 [(0, 9, 12, 21)] [.int (xs (n + 1))] (fun v => ∃ w, v = .int w) (fun v w => ∃ i : Int32, v = .int i ∧ i.toInt64 = w) h P) ∧
  (xs n &&& 15 = 7 → lw_thr u l dd 493 482 [(0, 9, 12, 21)] [.int (xs (n + 1))] (fun v => ∃ w, v = .int w) (fun v w => ∃ i : Int32, v = .int i ∧ i.toInt64 = w) h P) ∧
  (xs n &&& 15 = 8 → lw_pair u l dd 277 485 [.int (xs (n + 1)), .int (xs (n + 2))] h P) ∧
  (xs n &&& 15 = 9 → lw_pair u l dd 279 486 [.int (xs (n + 1)), .int (xs (n + 2)), .int (xs (n + 3))] h P) ∧
  (xs n &&& 15 = 10 → lw_pair u l dd 281 487 [.int (xs (n + 1)), .int (xs (n + 2))] h P) ∧
  (xs n &&& 15 = 11 → lw_pair u l dd 284 489 [.int (xs (n + 1)), .int (xs (n + 2))] h P) ∧
  (xs n &&& 15 = 12 → lw_pair u l dd 285 490 [.int (xs (n + 1))] h P) ∧
  ((xs n &&& 15 ≠ 0 ∧ xs n &&& 15 ≠ 1 ∧ xs n &&& 15 ≠ 2 ∧ xs n &&& 15 ≠ 3 ∧ xs n &&& 15 ≠ 4 ∧ xs n &&& 15 ≠ 5 ∧ xs n &&& 15 ≠ 6 ∧ xs n &&& 15 ≠ 7 ∧ xs n &&& 15 ≠ 8 ∧ xs n &&& 15 ≠ 9 ∧ xs n &&& 15 ≠ 10 ∧ xs n &&& 15 ≠ 11 ∧ xs n &&& 15 ≠ 12) → P h 0 0)
theorem lw_t1 {cd : Nat → xI} {pc k1 : Nat} {lv lv' : xL} {st st' : List Value} {h : xH} {nc ns : Nat} {f : xI} (h1 : cd pc = f) (h2 : f lv st h nc ns = some (.inl (k1, lv', st', h, nc, ns))) : x_seg cd 1 (pc, lv, st, h, nc, ns) = some (k1, lv', st', h, nc, ns) := by
  simp only [x_seg, x_go1, h1, h2]
theorem lw_gt {n : Nat} (hL : L ≤ 2048) (hn : n ≤ 4096) : (Int32.ofNat n > Int32.ofNat L - 4) ↔ L < n + 4 := by
  have h1 : (Int32.ofNat L - 4).toInt = (L : Int) - 4 := by
    rw [Int32.toInt_sub, Int32.toInt_ofNat_of_lt (by omega)]
    show ((L : Int) - 4).bmod (2 ^ 32) = _
    exact Int.bmod_eq_of_le (by omega) (by omega)
  rw [show (Int32.ofNat n > Int32.ofNat L - 4) = (Int32.ofNat L - 4 < Int32.ofNat n) from rfl, Int32.lt_iff_toInt_lt, h1, Int32.toInt_ofNat_of_lt (by omega)]
  omega
theorem lw_head (hx : ∀ j, xT ≤ j → ex j < b0) (hc : x_Ctx (xu D tc b0 ex L xs) xm_494 p s m args meth c) (hZ : x_XZ (xu D tc b0 ex L xs) s) {dd : Nat} (hf : dd + 2 ≤ R.frames) (hl : 64 * (dd + 2) ≤ R.locals) (hd9 : 12 ≤ dd) (hL : L ≤ 2048) {n : Nat} (hn : n ≤ 4096) {h : xH} {nc ns : Nat} (b1 : nc ≤ R.cells) (b2 : ns ≤ R.slots) (hK : lw_K D tc b0 ex L xs p l e R s m args below meth c Q (if L < n + 4 then 643 else 32, lw_lv (Int32.ofNat n), [], h, nc, ns)) : lw_K D tc b0 ex L xs p l e R s m args below meth c Q (23, lw_lv (Int32.ofNat n), [], h, nc, ns) := by
  refine lw_sg hx hc (by omega) (by omega) (N := 5) (g := (23, lw_lv (Int32.ofNat n), [], h, nc, ns)) (g' := (29, lw_lv (Int32.ofNat n), [.int (Int32.ofNat L - 4), .int (Int32.ofNat n)], h, nc, ns)) rfl b1 b2 ?_
  refine lw_sg hx hc (by omega) (by omega) (N := 1) (g' := (if Int32.ofNat n > Int32.ofNat L - 4 then 643 else 32, lw_lv (Int32.ofNat n), [], h, nc, ns)) rfl b1 b2 ?_
  rw [show (if Int32.ofNat n > Int32.ofNat L - 4 then 643 else 32) = (if L < n + 4 then 643 else 32) by simp only [lw_gt hL hn]]
  exact hK
theorem lw_sw (hx : ∀ j, xT ≤ j → ex j < b0) (hc : x_Ctx (xu D tc b0 ex L xs) xm_494 p s m args meth c) (hZ : x_XZ (xu D tc b0 ex L xs) s) {dd : Nat} (hf : dd + 2 ≤ R.frames) (hl : 64 * (dd + 2) ≤ R.locals) (hd9 : 12 ≤ dd) (hL : L ≤ 2048) {n : Nat} (hn : n + 4 ≤ L) {h : xH} {nc ns : Nat} (b1 : nc ≤ R.cells) (b2 : ns ≤ R.slots) (hK : lw_K D tc b0 ex L xs p l e R s m args below meth c Q (x_case [(0, 104), (1, 173), (2, 198), (3, 223), (4, 248), (5, 273), (6, 340), (7, 396), (8, 452), (9, 489), (10, 538), (11, 575), (12, 612)] 637 (xs n &&& 15), lw_lv (Int32.ofNat n), [], h, nc, ns)) : lw_K D tc b0 ex L xs p l e R s m args below meth c Q (32, lw_lv (Int32.ofNat n), [], h, nc, ns) := by
  refine lw_sg hx hc (by omega) (by omega) (N := 2) (g' := (35, lw_lv (Int32.ofNat n), [.int (Int32.ofNat n), .ref 1000000001], h, nc, ns)) rfl b1 b2 ?_
  refine lw_sg hx hc (by omega) (by omega) (N := 1) (g' := (36, lw_lv (Int32.ofNat n), [.int (xs n)], h, nc, ns)) (lw_t1 rfl (lw_ti (by omega) hL rfl)) b1 b2 ?_
  refine lw_sg hx hc (by omega) (by omega) (N := 2) (g' := (39, lw_lv (Int32.ofNat n), [.int (xs n &&& 15)], h, nc, ns)) rfl b1 b2 ?_
  exact lw_sg hx hc (by omega) (by omega) (N := 1) rfl b1 b2 hK
theorem lw_inc (hx : ∀ j, xT ≤ j → ex j < b0) (hc : x_Ctx (xu D tc b0 ex L xs) xm_494 p s m args meth c) (hZ : x_XZ (xu D tc b0 ex L xs) s) {dd : Nat} (hf : dd + 2 ≤ R.frames) (hl : 64 * (dd + 2) ≤ R.locals) (hd9 : 12 ≤ dd) (hL : L ≤ 2048) {n : Nat} {h : xH} {nc ns : Nat} (b1 : nc ≤ R.cells) (b2 : ns ≤ R.slots) (hK : lw_K D tc b0 ex L xs p l e R s m args below meth c Q (23, lw_lv (Int32.ofNat (n + 4)), [], h, nc, ns)) : lw_K D tc b0 ex L xs p l e R s m args below meth c Q (637, lw_lv (Int32.ofNat n), [], h, nc, ns) := by
  rw [Int32.ofNat_add] at hK
  exact lw_sg hx hc (by omega) (by omega) (N := 2) (g' := (23, lw_lv (Int32.ofNat n + Int32.ofNat 4), [], h, nc, ns)) rfl b1 b2 hK
theorem lw_iter (hx : ∀ j, xT ≤ j → ex j < b0) (hc : x_Ctx (xu D tc b0 ex L xs) xm_494 p s m args meth c) (hZ : x_XZ (xu D tc b0 ex L xs) s) {dd : Nat} (hf : dd + 2 ≤ R.frames) (hl : 64 * (dd + 2) ≤ R.locals) (hd9 : 12 ≤ dd) (hL : L ≤ 2048) {n : Nat} (hn : n + 4 ≤ L) {h : xH} {nc ns : Nat} (b1 : nc ≤ R.cells) (b2 : ns ≤ R.slots) {f1 : List Value} (o1 : h[0]? = some (.inr (0, f1))) {P : xH → Nat → Nat → Prop} (hg : lw_Good (xu D tc b0 ex L xs) l dd xs n h P)
    (hK : ∀ (h2 : xH) (mc ms : Nat), P h2 mc ms → nc + mc ≤ R.cells ∧ ns + ms ≤ R.slots ∧ lw_K D tc b0 ex L xs p l e R s m args below meth c Q (637, lw_lv (Int32.ofNat n), [], h2, nc + mc, ns + ms)) : lw_K D tc b0 ex L xs p l e R s m args below meth c Q (23, lw_lv (Int32.ofNat n), [], h, nc, ns) := by
  refine lw_head hx hc hZ hf hl hd9 hL (by omega) b1 b2 ?_
  rw [if_neg (by omega)]
  refine lw_sw hx hc hZ hf hl hd9 hL hn b1 b2 ?_
  obtain ⟨g0, g1, g2, g3, g4, g5, g6, g7, g8, g9, g10, g11, g12, gd⟩ := hg
  by_cases e0 : xs n &&& 15 = 0
  · rw [x_case, if_pos e0]
    exact lw_o0 hx hc hf hl hn hL o1 (g0 e0) hK
  rw [x_case, if_neg e0]
  by_cases e1 : xs n &&& 15 = 1
  · rw [x_case, if_pos e1]
    exact lw_o1 hx hc hf hl hn hL o1 (g1 e1) hK
  rw [x_case, if_neg e1]
  by_cases e2 : xs n &&& 15 = 2
  · rw [x_case, if_pos e2]
    exact lw_o2 hx hc hf hl hn hL o1 (g2 e2) hK
  rw [x_case, if_neg e2]
  by_cases e3 : xs n &&& 15 = 3
  · rw [x_case, if_pos e3]
    exact lw_o3 hx hc hf hl hn hL o1 (g3 e3) hK
  rw [x_case, if_neg e3]
  by_cases e4 : xs n &&& 15 = 4
  · rw [x_case, if_pos e4]
    exact lw_o4 hx hc hf hl hn hL o1 (g4 e4) hK
  rw [x_case, if_neg e4]
  by_cases e5 : xs n &&& 15 = 5
  · rw [x_case, if_pos e5]
    exact lw_o5 hx hc hf hl hn hL o1 hZ hd9 (g5 e5) hK
  rw [x_case, if_neg e5]
  by_cases e6 : xs n &&& 15 = 6
  · rw [x_case, if_pos e6]
    exact lw_o6 hx hc hf hl hn hL o1 hZ hd9 (g6 e6) hK
  rw [x_case, if_neg e6]
  by_cases e7 : xs n &&& 15 = 7
  · rw [x_case, if_pos e7]
    exact lw_o7 hx hc hf hl hn hL o1 hZ hd9 (g7 e7) hK
  rw [x_case, if_neg e7]
  by_cases e8 : xs n &&& 15 = 8
  · rw [x_case, if_pos e8]
    exact lw_o8 hx hc hf hl hn hL o1 (g8 e8) hK
  rw [x_case, if_neg e8]
  by_cases e9 : xs n &&& 15 = 9
  · rw [x_case, if_pos e9]
    exact lw_o9 hx hc hf hl hn hL o1 (g9 e9) hK
  rw [x_case, if_neg e9]
  by_cases e10 : xs n &&& 15 = 10
  · rw [x_case, if_pos e10]
    exact lw_o10 hx hc hf hl hn hL o1 (g10 e10) hK
  rw [x_case, if_neg e10]
  by_cases e11 : xs n &&& 15 = 11
  · rw [x_case, if_pos e11]
    exact lw_o11 hx hc hf hl hn hL o1 (g11 e11) hK
  rw [x_case, if_neg e11]
  by_cases e12 : xs n &&& 15 = 12
  · rw [x_case, if_pos e12]
    exact lw_o12 hx hc hf hl hn hL o1 (g12 e12) hK
  rw [x_case, if_neg e12]
  rw [x_case]
  exact (hK h 0 0 (gd ⟨e0, e1, e2, e3, e4, e5, e6, e7, e8, e9, e10, e11, e12⟩)).2.2
/-- the law's loop, over an invariant -/
theorem lw_loop (hx : ∀ j, xT ≤ j → ex j < b0) (hc : x_Ctx (xu D tc b0 ex L xs) xm_494 p s m args meth c) (hZ : x_XZ (xu D tc b0 ex L xs) s) {dd : Nat} (hf : dd + 2 ≤ R.frames) (hl : 64 * (dd + 2) ≤ R.locals) (hd9 : 12 ≤ dd) (hL : L ≤ 2048) (Inv : Nat → xH → Nat → Nat → Prop)
    (hI : ∀ (n : Nat) (h : xH) (nc ns : Nat), Inv n h nc ns → nc ≤ R.cells ∧ ns ≤ R.slots ∧ (n + 4 ≤ L → (∃ f1, h[0]? = some (.inr (0, f1))) ∧ lw_Good (xu D tc b0 ex L xs) l dd xs n h (fun h2 mc ms => Inv (n + 4) h2 (nc + mc) (ns + ms))))
    (hE : ∀ (n : Nat) (h : xH) (nc ns : Nat), Inv n h nc ns → lw_K D tc b0 ex L xs p l e R s m args below meth c Q (643, lw_lv (Int32.ofNat n), [], h, nc, ns)) :
    ∀ (k n : Nat) (h : xH) (nc ns : Nat), L < n + 4 * k + 4 → n ≤ L + 4 → Inv n h nc ns → lw_K D tc b0 ex L xs p l e R s m args below meth c Q (23, lw_lv (Int32.ofNat n), [], h, nc, ns) := by
  intro k
  induction k with
  | zero =>
    intro n h nc ns h1 h2 hi
    obtain ⟨b1, b2, -⟩ := hI n h nc ns hi
    refine lw_head hx hc hZ hf hl hd9 hL (by omega) b1 b2 ?_
    rw [if_pos (by omega)]
    exact hE n h nc ns hi
  | succ k ih =>
    intro n h nc ns h1 h2 hi
    obtain ⟨b1, b2, hs⟩ := hI n h nc ns hi
    by_cases hn : n + 4 ≤ L
    · obtain ⟨⟨f1, o1⟩, hg⟩ := hs hn
      refine lw_iter hx hc hZ hf hl hd9 hL hn b1 b2 o1 hg (fun h2 mc ms hP => ?_)
      obtain ⟨c1, c2, -⟩ := hI _ _ _ _ hP
      exact ⟨c1, c2, lw_inc hx hc hZ hf hl hd9 hL c1 c2 (ih _ _ _ _ (by omega) (by omega) hP)⟩
    · refine lw_head hx hc hZ hf hl hd9 hL (by omega) b1 b2 ?_
      rw [if_pos (by omega)]
      exact hE n h nc ns hi
end XLoop
