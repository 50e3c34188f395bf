section XUp2
theorem x_up1_le {pr : xPr} {cd : Nat → xI} {fl fl' d : Nat} {g g' : xG} (hm : fl ≤ fl') (h : x_up1 pr cd fl d g = some g') : x_up1 pr cd fl' d g = some g' := by
  unfold x_up1 at h ⊢
  split at h
  · exact h
  · split at h
    · cases h
    · split at h
      · cases h
      · rename_i r hr
        rw [x_run_le hm hr]
        exact h
  · cases h
theorem x_upto_le {pr : xPr} {cd : Nat → xI} {fl fl' d stop : Nat} (hm : fl ≤ fl') : ∀ (n : Nat) {g g' : xG}, x_upto pr cd fl d stop n g = some g' → x_upto pr cd fl' d stop n g = some g' := by
  intro n
  induction n with
  | zero => intro g g' h; cases h
  | succ n ih =>
    intro g g' h
    rw [x_upto_s] at h ⊢
    split at h
    · exact h
    · split at h
      · rename_i g2 hg
        rw [x_up1_le hm hg]
        exact ih h
      · cases h
/-- from a place to another within method j -/
def x_Up (j pc0 : Nat) (g g' : xG) : Prop := ∃ fl n, x_upto x_pr (x_pr j).2 fl 8 pc0 n g = some g'
theorem up_0 {j pc0 : Nat} {lv : xL} {st : List Value} {h : xH} {nc ns : Nat} : x_Up j pc0 (pc0, lv, st, h, nc, ns) (pc0, lv, st, h, nc, ns) := by
  refine ⟨0, 1, ?_⟩
  rw [x_upto_s]
  dsimp only
  rw [Nat.beq_refl]
theorem up_1 {j pc0 k k' : Nat} {lv lv' : xL} {st st' : List Value} {h h' : xH} {nc ns nc' ns' : Nat} {g' : xG} (hb : Nat.beq k pc0 = false) (hs : (x_pr j).2 k lv st h nc ns = some (.inl (k', lv', st', h', nc', ns'))) (hr : x_Up j pc0 (k', lv', st', h', nc', ns') g') : x_Up j pc0 (k, lv, st, h, nc, ns) g' := by
  obtain ⟨fl, n, e⟩ := hr
  refine ⟨fl, n + 1, ?_⟩
  rw [x_upto_s]
  dsimp only
  rw [hb]
  dsimp only
  have e1 : x_up1 x_pr (x_pr j).2 fl 8 (k, lv, st, h, nc, ns) = some (k', lv', st', h', nc', ns') := by
    unfold x_up1
    dsimp only
    rw [hs]
  rw [e1]
  exact e
theorem up_c {j j' pc0 k k' : Nat} {as : List Value} {lv lv' : xL} {st st' : List Value} {h h' h1 : xH} {nc ns nc' ns' mc ms : Nat} {r1 : Option Value} {g' : xG} (hb : Nat.beq k pc0 = false) (hs : (x_pr j).2 k lv st h nc ns = some (.inr (.inr (j', as, (k', lv', st', h', nc', ns'))))) (hf : x_fit as (x_pr j').1.2.2.1 = true) (hc : x_Ev 8 j' 0 (lv_args 0 as) [] h' 0 0 (r1, h1, mc, ms)) (hr : x_Up j pc0 (k', lv', r1.toList ++ st', h1, nc' + mc, ns' + ms) g') : x_Up j pc0 (k, lv, st, h, nc, ns) g' := by
  obtain ⟨f1, e0⟩ := hc
  obtain ⟨fl, n, e⟩ := hr
  refine ⟨f1 + fl, n + 1, ?_⟩
  rw [x_upto_s]
  dsimp only
  rw [hb]
  dsimp only
  have e1 : x_up1 x_pr (x_pr j).2 (f1 + fl) 8 (k, lv, st, h, nc, ns) = some (k', lv', r1.toList ++ st', h1, nc' + mc, ns' + ms) := by
    unfold x_up1
    dsimp only
    rw [hs]
    dsimp only
    rw [hf]
    dsimp only
    rw [x_run_le (Nat.le_add_right f1 fl) e0]
  rw [e1]
  exact x_upto_le (Nat.le_add_left fl f1) n e
theorem up_pc {j pc0 k k' : Nat} {lv : xL} {st : List Value} {h : xH} {nc ns : Nat} {g' : xG} (hk : k = k') (hr : x_Up j pc0 (k', lv, st, h, nc, ns) g') : x_Up j pc0 (k, lv, st, h, nc, ns) g' := hk ▸ hr
/-- the reference's call, and what it says of throwing -/
def x_rfW (j : Nat) (as : List Value) (h : xH) (k : Int32) (Y : Value → xH → Prop) (b1 b2 : Nat) : Prop := x_WP 12 j 0 (lv_args 0 (.ref 114 :: as)) [] h 0 0 (fun u h1 mc1 ms1 => ∃ (v : Value) (f2 : List Value), u = some v ∧ h1[114]? = some (.inr (20, f2)) ∧ x_WP 12 312 0 (lv_args 0 [.ref 114]) [] h1 0 0 (fun u2 h2 mc2 ms2 => u2 = some (.int k) ∧ Y v h2 ∧ mc1 + mc2 ≤ b1 ∧ ms1 + ms2 ≤ b2))
theorem up_read_a {c n : Int32} (b0 : n < 1) : ∃ lv, x_Up 286 18 (0, lv_args 0 [.ref 0, .int c, .int n], [], x_hL, 0, 0) (18, lv, [], x_hL, 0, 0) := by
  apply Exists.intro
  iterate 3 refine up_1 rfl rfl ?_
  refine up_pc (if_pos b0) ?_
  exact up_0
theorem up_read_b {c n : Int32} (b0 : ¬ n < 1) (b1 : 8 < n) : ∃ lv, x_Up 286 18 (0, lv_args 0 [.ref 0, .int c, .int n], [], x_hL, 0, 0) (18, lv, [], x_hL, 0, 0) := by
  apply Exists.intro
  iterate 3 refine up_1 rfl rfl ?_
  refine up_pc (if_neg b0) ?_
  iterate 3 refine up_1 rfl rfl ?_
  refine up_pc (if_pos b1) ?_
  exact up_0
theorem up_read_c {c n : Int32} (hb : c < 0 ∨ ¬ c < 0 ∧ 4 ≤ c) (b0 : ¬ n < 1) (b1 : ¬ 8 < n) : ∃ lv, x_Up 286 18 (0, lv_args 0 [.ref 0, .int c, .int n], [], x_hL, 0, 0) (18, lv, [], x_hL, 0, 0) := by
  apply Exists.intro
  iterate 3 refine up_1 rfl rfl ?_
  refine up_pc (if_neg b0) ?_
  iterate 3 refine up_1 rfl rfl ?_
  refine up_pc (if_neg b1) ?_
  refine up_1 rfl rfl ?_
  refine up_c rfl rfl rfl (iCb hb) ?_
  refine up_1 rfl rfl ?_
  exact up_0
theorem rf_read_aA {c n : Int32} (b0 : n < 1) : x_rfW 470 [.int c, .int n] x_hL 2 (fun w _ => w = .long 0) 10 100 := by
  iterate 4 refine wp_1 rfl ?_
  refine wp_pc (if_pos b0) ?_
  iterate 7 refine wp_1 rfl ?_
  refine wp_r rfl ⟨_, _, rfl, rfl, ?_⟩
  iterate 2 refine wp_1 rfl ?_
  exact wp_r rfl ⟨rfl, rfl, Nat.le_of_ble_eq_true rfl, Nat.le_of_ble_eq_true rfl⟩
theorem rf_read_aB {c n : Int32} (b0 : n < 1) : x_rfW 470 [.int c, .int n] (x_hL ++ [x_op]) 2 (fun w _ => w = .long 0) 10 100 := by
  iterate 4 refine wp_1 rfl ?_
  refine wp_pc (if_pos b0) ?_
  iterate 7 refine wp_1 rfl ?_
  refine wp_r rfl ⟨_, _, rfl, rfl, ?_⟩
  iterate 2 refine wp_1 rfl ?_
  exact wp_r rfl ⟨rfl, rfl, Nat.le_of_ble_eq_true rfl, Nat.le_of_ble_eq_true rfl⟩
theorem rf_read_bA {c n : Int32} (b0 : ¬ n < 1) (b1 : 8 < n) : x_rfW 470 [.int c, .int n] x_hL 2 (fun w _ => w = .long 0) 10 100 := by
  iterate 4 refine wp_1 rfl ?_
  refine wp_pc (if_neg b0) ?_
  iterate 3 refine wp_1 rfl ?_
  refine wp_pc (if_pos b1) ?_
  iterate 7 refine wp_1 rfl ?_
  refine wp_r rfl ⟨_, _, rfl, rfl, ?_⟩
  iterate 2 refine wp_1 rfl ?_
  exact wp_r rfl ⟨rfl, rfl, Nat.le_of_ble_eq_true rfl, Nat.le_of_ble_eq_true rfl⟩
theorem rf_read_bB {c n : Int32} (b0 : ¬ n < 1) (b1 : 8 < n) : x_rfW 470 [.int c, .int n] (x_hL ++ [x_op]) 2 (fun w _ => w = .long 0) 10 100 := by
  iterate 4 refine wp_1 rfl ?_
  refine wp_pc (if_neg b0) ?_
  iterate 3 refine wp_1 rfl ?_
  refine wp_pc (if_pos b1) ?_
  iterate 7 refine wp_1 rfl ?_
  refine wp_r rfl ⟨_, _, rfl, rfl, ?_⟩
  iterate 2 refine wp_1 rfl ?_
  exact wp_r rfl ⟨rfl, rfl, Nat.le_of_ble_eq_true rfl, Nat.le_of_ble_eq_true rfl⟩
theorem rf_read_cA {c n : Int32} (hb : c < 0 ∨ ¬ c < 0 ∧ 4 ≤ c) (b0 : ¬ n < 1) (b1 : ¬ 8 < n) : x_rfW 470 [.int c, .int n] x_hL 2 (fun w _ => w = .long 0) 10 100 := by
  iterate 4 refine wp_1 rfl ?_
  refine wp_pc (if_neg b0) ?_
  iterate 3 refine wp_1 rfl ?_
  refine wp_pc (if_neg b1) ?_
  refine wp_1 rfl ?_
  refine wp_c rfl rfl (wp_e (iMb hb) ?_)
  iterate 8 refine wp_1 rfl ?_
  refine wp_r rfl ⟨_, _, rfl, rfl, ?_⟩
  iterate 2 refine wp_1 rfl ?_
  exact wp_r rfl ⟨rfl, rfl, Nat.le_of_ble_eq_true rfl, Nat.le_of_ble_eq_true rfl⟩
theorem rf_read_cB {c n : Int32} (hb : c < 0 ∨ ¬ c < 0 ∧ 4 ≤ c) (b0 : ¬ n < 1) (b1 : ¬ 8 < n) : x_rfW 470 [.int c, .int n] (x_hL ++ [x_op]) 2 (fun w _ => w = .long 0) 10 100 := by
  iterate 4 refine wp_1 rfl ?_
  refine wp_pc (if_neg b0) ?_
  iterate 3 refine wp_1 rfl ?_
  refine wp_pc (if_neg b1) ?_
  refine wp_1 rfl ?_
  refine wp_c rfl rfl (wp_e (iMb hb) ?_)
  iterate 8 refine wp_1 rfl ?_
  refine wp_r rfl ⟨_, _, rfl, rfl, ?_⟩
  iterate 2 refine wp_1 rfl ?_
  exact wp_r rfl ⟨rfl, rfl, Nat.le_of_ble_eq_true rfl, Nat.le_of_ble_eq_true rfl⟩
theorem up_read_0 {n : Int32} (b0 : ¬ n < 1) (b1 : ¬ 8 < n) (b2 : ¬ n ≤ 0) : ∃ lv, x_Up 286 39 (0, lv_args 0 [.ref 0, .int 0, .int n], [], x_hL, 0, 0) (39, lv, [], x_hL, 0, 0) := by
  apply Exists.intro
  iterate 3 refine up_1 rfl rfl ?_
  refine up_pc (if_neg b0) ?_
  iterate 3 refine up_1 rfl rfl ?_
  refine up_pc (if_neg b1) ?_
  refine up_1 rfl rfl ?_
  refine up_c rfl rfl rfl (iCg (by decide)) ?_
  iterate 8 refine up_1 rfl rfl ?_
  refine up_pc (if_neg b2) ?_
  exact up_0
theorem rf_read_0A {n : Int32} (b0 : ¬ n < 1) (b1 : ¬ 8 < n) (b2 : ¬ n ≤ 0) : x_rfW 470 [.int 0, .int n] x_hL 1 (fun w _ => w = .long 0) 10 100 := by
  iterate 4 refine wp_1 rfl ?_
  refine wp_pc (if_neg b0) ?_
  iterate 3 refine wp_1 rfl ?_
  refine wp_pc (if_neg b1) ?_
  refine wp_1 rfl ?_
  refine wp_c rfl rfl ?_
  iterate 7 refine wp_1 rfl ?_
  refine wp_r rfl ?_
  iterate 8 refine wp_1 rfl ?_
  refine wp_pc (if_neg b2) ?_
  iterate 7 refine wp_1 rfl ?_
  refine wp_r rfl ⟨_, _, rfl, rfl, ?_⟩
  iterate 2 refine wp_1 rfl ?_
  exact wp_r rfl ⟨rfl, rfl, Nat.le_of_ble_eq_true rfl, Nat.le_of_ble_eq_true rfl⟩
theorem rf_read_0B {n : Int32} (b0 : ¬ n < 1) (b1 : ¬ 8 < n) (b2 : ¬ n ≤ 0) : x_rfW 470 [.int 0, .int n] (x_hL ++ [x_op]) 1 (fun w _ => w = .long 0) 10 100 := by
  iterate 4 refine wp_1 rfl ?_
  refine wp_pc (if_neg b0) ?_
  iterate 3 refine wp_1 rfl ?_
  refine wp_pc (if_neg b1) ?_
  refine wp_1 rfl ?_
  refine wp_c rfl rfl ?_
  iterate 7 refine wp_1 rfl ?_
  refine wp_r rfl ?_
  iterate 8 refine wp_1 rfl ?_
  refine wp_pc (if_neg b2) ?_
  iterate 7 refine wp_1 rfl ?_
  refine wp_r rfl ⟨_, _, rfl, rfl, ?_⟩
  iterate 2 refine wp_1 rfl ?_
  exact wp_r rfl ⟨rfl, rfl, Nat.le_of_ble_eq_true rfl, Nat.le_of_ble_eq_true rfl⟩
theorem up_read_1 {n : Int32} (b0 : ¬ n < 1) (b1 : ¬ 8 < n) (b2 : ¬ n ≤ 0) : ∃ lv, x_Up 286 39 (0, lv_args 0 [.ref 0, .int 1, .int n], [], x_hL, 0, 0) (39, lv, [], x_hL, 0, 0) := by
  apply Exists.intro
  iterate 3 refine up_1 rfl rfl ?_
  refine up_pc (if_neg b0) ?_
  iterate 3 refine up_1 rfl rfl ?_
  refine up_pc (if_neg b1) ?_
  refine up_1 rfl rfl ?_
  refine up_c rfl rfl rfl (iCg (by decide)) ?_
  iterate 8 refine up_1 rfl rfl ?_
  refine up_pc (if_neg b2) ?_
  exact up_0
theorem rf_read_1A {n : Int32} (b0 : ¬ n < 1) (b1 : ¬ 8 < n) (b2 : ¬ n ≤ 0) : x_rfW 470 [.int 1, .int n] x_hL 1 (fun w _ => w = .long 0) 10 100 := by
  iterate 4 refine wp_1 rfl ?_
  refine wp_pc (if_neg b0) ?_
  iterate 3 refine wp_1 rfl ?_
  refine wp_pc (if_neg b1) ?_
  refine wp_1 rfl ?_
  refine wp_c rfl rfl ?_
  iterate 7 refine wp_1 rfl ?_
  refine wp_r rfl ?_
  iterate 8 refine wp_1 rfl ?_
  refine wp_pc (if_neg b2) ?_
  iterate 7 refine wp_1 rfl ?_
  refine wp_r rfl ⟨_, _, rfl, rfl, ?_⟩
  iterate 2 refine wp_1 rfl ?_
  exact wp_r rfl ⟨rfl, rfl, Nat.le_of_ble_eq_true rfl, Nat.le_of_ble_eq_true rfl⟩
theorem rf_read_1B {n : Int32} (b0 : ¬ n < 1) (b1 : ¬ 8 < n) (b2 : ¬ n ≤ 0) : x_rfW 470 [.int 1, .int n] (x_hL ++ [x_op]) 1 (fun w _ => w = .long 0) 10 100 := by
  iterate 4 refine wp_1 rfl ?_
  refine wp_pc (if_neg b0) ?_
  iterate 3 refine wp_1 rfl ?_
  refine wp_pc (if_neg b1) ?_
  refine wp_1 rfl ?_
  refine wp_c rfl rfl ?_
  iterate 7 refine wp_1 rfl ?_
  refine wp_r rfl ?_
  iterate 8 refine wp_1 rfl ?_
  refine wp_pc (if_neg b2) ?_
  iterate 7 refine wp_1 rfl ?_
  refine wp_r rfl ⟨_, _, rfl, rfl, ?_⟩
  iterate 2 refine wp_1 rfl ?_
  exact wp_r rfl ⟨rfl, rfl, Nat.le_of_ble_eq_true rfl, Nat.le_of_ble_eq_true rfl⟩
theorem up_read_2 {n : Int32} (b0 : ¬ n < 1) (b1 : ¬ 8 < n) (b2 : ¬ n ≤ 0) : ∃ lv, x_Up 286 39 (0, lv_args 0 [.ref 0, .int 2, .int n], [], x_hL, 0, 0) (39, lv, [], x_hL, 0, 0) := by
  apply Exists.intro
  iterate 3 refine up_1 rfl rfl ?_
  refine up_pc (if_neg b0) ?_
  iterate 3 refine up_1 rfl rfl ?_
  refine up_pc (if_neg b1) ?_
  refine up_1 rfl rfl ?_
  refine up_c rfl rfl rfl (iCg (by decide)) ?_
  iterate 8 refine up_1 rfl rfl ?_
  refine up_pc (if_neg b2) ?_
  exact up_0
theorem rf_read_2A {n : Int32} (b0 : ¬ n < 1) (b1 : ¬ 8 < n) (b2 : ¬ n ≤ 0) : x_rfW 470 [.int 2, .int n] x_hL 1 (fun w _ => w = .long 0) 10 100 := by
  iterate 4 refine wp_1 rfl ?_
  refine wp_pc (if_neg b0) ?_
  iterate 3 refine wp_1 rfl ?_
  refine wp_pc (if_neg b1) ?_
  refine wp_1 rfl ?_
  refine wp_c rfl rfl ?_
  iterate 7 refine wp_1 rfl ?_
  refine wp_r rfl ?_
  iterate 8 refine wp_1 rfl ?_
  refine wp_pc (if_neg b2) ?_
  iterate 7 refine wp_1 rfl ?_
  refine wp_r rfl ⟨_, _, rfl, rfl, ?_⟩
  iterate 2 refine wp_1 rfl ?_
  exact wp_r rfl ⟨rfl, rfl, Nat.le_of_ble_eq_true rfl, Nat.le_of_ble_eq_true rfl⟩
theorem rf_read_2B {n : Int32} (b0 : ¬ n < 1) (b1 : ¬ 8 < n) (b2 : ¬ n ≤ 0) : x_rfW 470 [.int 2, .int n] (x_hL ++ [x_op]) 1 (fun w _ => w = .long 0) 10 100 := by
  iterate 4 refine wp_1 rfl ?_
  refine wp_pc (if_neg b0) ?_
  iterate 3 refine wp_1 rfl ?_
  refine wp_pc (if_neg b1) ?_
  refine wp_1 rfl ?_
  refine wp_c rfl rfl ?_
  iterate 7 refine wp_1 rfl ?_
  refine wp_r rfl ?_
  iterate 8 refine wp_1 rfl ?_
  refine wp_pc (if_neg b2) ?_
  iterate 7 refine wp_1 rfl ?_
  refine wp_r rfl ⟨_, _, rfl, rfl, ?_⟩
  iterate 2 refine wp_1 rfl ?_
  exact wp_r rfl ⟨rfl, rfl, Nat.le_of_ble_eq_true rfl, Nat.le_of_ble_eq_true rfl⟩
theorem up_read_3 {n : Int32} (b0 : ¬ n < 1) (b1 : ¬ 8 < n) (b2 : ¬ n ≤ 0) : ∃ lv, x_Up 286 39 (0, lv_args 0 [.ref 0, .int 3, .int n], [], x_hL, 0, 0) (39, lv, [], x_hL, 0, 0) := by
  apply Exists.intro
  iterate 3 refine up_1 rfl rfl ?_
  refine up_pc (if_neg b0) ?_
  iterate 3 refine up_1 rfl rfl ?_
  refine up_pc (if_neg b1) ?_
  refine up_1 rfl rfl ?_
  refine up_c rfl rfl rfl (iCg (by decide)) ?_
  iterate 8 refine up_1 rfl rfl ?_
  refine up_pc (if_neg b2) ?_
  exact up_0
theorem rf_read_3A {n : Int32} (b0 : ¬ n < 1) (b1 : ¬ 8 < n) (b2 : ¬ n ≤ 0) : x_rfW 470 [.int 3, .int n] x_hL 1 (fun w _ => w = .long 0) 10 100 := by
  iterate 4 refine wp_1 rfl ?_
  refine wp_pc (if_neg b0) ?_
  iterate 3 refine wp_1 rfl ?_
  refine wp_pc (if_neg b1) ?_
  refine wp_1 rfl ?_
  refine wp_c rfl rfl ?_
  iterate 7 refine wp_1 rfl ?_
  refine wp_r rfl ?_
  iterate 8 refine wp_1 rfl ?_
  refine wp_pc (if_neg b2) ?_
  iterate 7 refine wp_1 rfl ?_
  refine wp_r rfl ⟨_, _, rfl, rfl, ?_⟩
  iterate 2 refine wp_1 rfl ?_
  exact wp_r rfl ⟨rfl, rfl, Nat.le_of_ble_eq_true rfl, Nat.le_of_ble_eq_true rfl⟩
theorem rf_read_3B {n : Int32} (b0 : ¬ n < 1) (b1 : ¬ 8 < n) (b2 : ¬ n ≤ 0) : x_rfW 470 [.int 3, .int n] (x_hL ++ [x_op]) 1 (fun w _ => w = .long 0) 10 100 := by
  iterate 4 refine wp_1 rfl ?_
  refine wp_pc (if_neg b0) ?_
  iterate 3 refine wp_1 rfl ?_
  refine wp_pc (if_neg b1) ?_
  refine wp_1 rfl ?_
  refine wp_c rfl rfl ?_
  iterate 7 refine wp_1 rfl ?_
  refine wp_r rfl ?_
  iterate 8 refine wp_1 rfl ?_
  refine wp_pc (if_neg b2) ?_
  iterate 7 refine wp_1 rfl ?_
  refine wp_r rfl ⟨_, _, rfl, rfl, ?_⟩
  iterate 2 refine wp_1 rfl ?_
  exact wp_r rfl ⟨rfl, rfl, Nat.le_of_ble_eq_true rfl, Nat.le_of_ble_eq_true rfl⟩
theorem up_tick_a {n : Int32} (b0 : n < 1) : ∃ lv, x_Up 292 11 (0, lv_args 0 [.ref 0, .int n], [], x_hL, 0, 0) (11, lv, [], x_hL, 0, 0) := by
  apply Exists.intro
  iterate 3 refine up_1 rfl rfl ?_
  refine up_pc (if_pos b0) ?_
  exact up_0
theorem up_tick_b {n : Int32} (b0 : ¬ n < 1) (b1 : ¬ n ≤ 100) : ∃ lv, x_Up 292 11 (0, lv_args 0 [.ref 0, .int n], [], x_hL, 0, 0) (11, lv, [], x_hL, 0, 0) := by
  apply Exists.intro
  iterate 3 refine up_1 rfl rfl ?_
  refine up_pc (if_neg b0) ?_
  iterate 3 refine up_1 rfl rfl ?_
  refine up_pc (if_neg b1) ?_
  exact up_0
theorem rf_tick_aA {n : Int32} (b0 : n < 1) : x_rfW 471 [.int n] x_hL 1 (fun w _ => w = .int 0) 10 100 := by
  iterate 4 refine wp_1 rfl ?_
  refine wp_pc (if_pos b0) ?_
  iterate 7 refine wp_1 rfl ?_
  refine wp_r rfl ⟨_, _, rfl, rfl, ?_⟩
  iterate 2 refine wp_1 rfl ?_
  exact wp_r rfl ⟨rfl, rfl, Nat.le_of_ble_eq_true rfl, Nat.le_of_ble_eq_true rfl⟩
theorem rf_tick_aB {n : Int32} (b0 : n < 1) : x_rfW 471 [.int n] (x_hL ++ [x_op]) 1 (fun w _ => w = .int 0) 10 100 := by
  iterate 4 refine wp_1 rfl ?_
  refine wp_pc (if_pos b0) ?_
  iterate 7 refine wp_1 rfl ?_
  refine wp_r rfl ⟨_, _, rfl, rfl, ?_⟩
  iterate 2 refine wp_1 rfl ?_
  exact wp_r rfl ⟨rfl, rfl, Nat.le_of_ble_eq_true rfl, Nat.le_of_ble_eq_true rfl⟩
theorem rf_tick_bA {n : Int32} (b0 : ¬ n < 1) (b1 : ¬ n ≤ 100) : x_rfW 471 [.int n] x_hL 1 (fun w _ => w = .int 0) 10 100 := by
  iterate 4 refine wp_1 rfl ?_
  refine wp_pc (if_neg b0) ?_
  iterate 3 refine wp_1 rfl ?_
  refine wp_pc (if_neg b1) ?_
  iterate 7 refine wp_1 rfl ?_
  refine wp_r rfl ⟨_, _, rfl, rfl, ?_⟩
  iterate 2 refine wp_1 rfl ?_
  exact wp_r rfl ⟨rfl, rfl, Nat.le_of_ble_eq_true rfl, Nat.le_of_ble_eq_true rfl⟩
theorem rf_tick_bB {n : Int32} (b0 : ¬ n < 1) (b1 : ¬ n ≤ 100) : x_rfW 471 [.int n] (x_hL ++ [x_op]) 1 (fun w _ => w = .int 0) 10 100 := by
  iterate 4 refine wp_1 rfl ?_
  refine wp_pc (if_neg b0) ?_
  iterate 3 refine wp_1 rfl ?_
  refine wp_pc (if_neg b1) ?_
  iterate 7 refine wp_1 rfl ?_
  refine wp_r rfl ⟨_, _, rfl, rfl, ?_⟩
  iterate 2 refine wp_1 rfl ?_
  exact wp_r rfl ⟨rfl, rfl, Nat.le_of_ble_eq_true rfl, Nat.le_of_ble_eq_true rfl⟩
theorem up_crash {n : Int32} (b0 : n < 0) : ∃ lv, x_Up 304 14 (0, lv_args 0 [.ref 0, .int n], [], x_hL, 0, 0) (14, lv, [], x_hL, 0, 0) := by
  apply Exists.intro
  iterate 2 refine up_1 rfl rfl ?_
  refine up_pc (if_pos b0) ?_
  exact up_0
theorem rf_crashA {n : Int32} (b0 : n < 0) : x_rfW 482 [.int n] x_hL 1 (fun w _ => w = .int 0) 10 100 := by
  iterate 3 refine wp_1 rfl ?_
  refine wp_pc (if_pos b0) ?_
  iterate 7 refine wp_1 rfl ?_
  refine wp_r rfl ⟨_, _, rfl, rfl, ?_⟩
  iterate 2 refine wp_1 rfl ?_
  exact wp_r rfl ⟨rfl, rfl, Nat.le_of_ble_eq_true rfl, Nat.le_of_ble_eq_true rfl⟩
theorem rf_crashB {n : Int32} (b0 : n < 0) : x_rfW 482 [.int n] (x_hL ++ [x_op]) 1 (fun w _ => w = .int 0) 10 100 := by
  iterate 3 refine wp_1 rfl ?_
  refine wp_pc (if_pos b0) ?_
  iterate 7 refine wp_1 rfl ?_
  refine wp_r rfl ⟨_, _, rfl, rfl, ?_⟩
  iterate 2 refine wp_1 rfl ?_
  exact wp_r rfl ⟨rfl, rfl, Nat.le_of_ble_eq_true rfl, Nat.le_of_ble_eq_true rfl⟩
end XUp2
