section XTick3
theorem tk_cE {h : xH} {c a b k n : Int32} {w : List (Nat × Value)} {Z : Option Value → xH → Nat → Nat → Prop} (hz : x_inv h (x_LT c a b k w)) (b0 : ¬ n < 1) (b1 : n ≤ 100) (hK : ∀ h' : xH, x_inv h' (x_LT c a b k w) → x_WP 11 292 21 [(2, .int 0), (0, .ref 0), (1, .int n)] [] h' 0 0 Z) : x_WP 11 292 0 (lv_args 0 [.ref 0, .int n]) [] h 0 0 Z := by
  obtain ⟨z0, z2, z5, z8, z9, z11, z12, z18, z19, z27, z31, z32, z36, z37, z41, z42, z43, z51, z55, z56, z60, z61, z65, z66, z67, z75, z79, z80, z84, z85, z89, z90, z91, z99, z103, z104, z108, z109, z113, z114, z115, z136, z139, z140, z144, z148, z152, z155, z156, z160, z164, z168, z171, z172, z176, z180, z184, z187, z188, z192, z196, z200, -⟩ := hz
  refine wp_ov ?_
  iterate 3 refine wp_1 rfl ?_
  refine wp_pc (if_neg b0) ?_
  iterate 3 refine wp_1 rfl ?_
  refine wp_pc (if_pos b1) ?_
  iterate 2 refine wp_1 rfl ?_
  refine hK _ ?_
  exact (x_inv_c (ss_out z0 rfl) <| x_inv_c (ss_out z2 rfl) <| x_inv_c (ss_out z5 rfl) <| x_inv_c (ss_out z8 rfl) <| x_inv_c (ss_out z9 rfl) <| x_inv_c (ss_out z11 rfl) <| x_inv_c (ss_out z12 rfl) <| x_inv_c (ss_out z18 rfl) <| x_inv_c (ss_out z19 rfl) <| x_inv_c (ss_out z27 rfl) <| x_inv_c (ss_out z31 rfl) <| x_inv_c (ss_out z32 rfl) <| x_inv_c (ss_out z36 rfl) <| x_inv_c (ss_out z37 rfl) <| x_inv_c (ss_out z41 rfl) <| x_inv_c (ss_out z42 rfl) <| x_inv_c (ss_out z43 rfl) <| x_inv_c (ss_out z51 rfl) <| x_inv_c (ss_out z55 rfl) <| x_inv_c (ss_out z56 rfl) <| x_inv_c (ss_out z60 rfl) <| x_inv_c (ss_out z61 rfl) <| x_inv_c (ss_out z65 rfl) <| x_inv_c (ss_out z66 rfl) <| x_inv_c (ss_out z67 rfl) <| x_inv_c (ss_out z75 rfl) <| x_inv_c (ss_out z79 rfl) <| x_inv_c (ss_out z80 rfl) <| x_inv_c (ss_out z84 rfl) <| x_inv_c (ss_out z85 rfl) <| x_inv_c (ss_out z89 rfl) <| x_inv_c (ss_out z90 rfl) <| x_inv_c (ss_out z91 rfl) <| x_inv_c (ss_out z99 rfl) <| x_inv_c (ss_out z103 rfl) <| x_inv_c (ss_out z104 rfl) <| x_inv_c (ss_out z108 rfl) <| x_inv_c (ss_out z109 rfl) <| x_inv_c (ss_out z113 rfl) <| x_inv_c (ss_out z114 rfl) <| x_inv_c (ss_out z115 rfl) <| x_inv_c (ss_out z136 rfl) <| x_inv_c (ss_out z139 rfl) <| x_inv_c (ss_out z140 rfl) <| x_inv_c (ss_out z144 rfl) <| x_inv_c (ss_out z148 rfl) <| x_inv_c (ss_out z152 rfl) <| x_inv_c (ss_out z155 rfl) <| x_inv_c (ss_out z156 rfl) <| x_inv_c (ss_out z160 rfl) <| x_inv_c (ss_out z164 rfl) <| x_inv_c (ss_out z168 rfl) <| x_inv_c (ss_out z171 rfl) <| x_inv_c (ss_out z172 rfl) <| x_inv_c (ss_out z176 rfl) <| x_inv_c (ss_out z180 rfl) <| x_inv_c (ss_out z184 rfl) <| x_inv_c (ss_out z187 rfl) <| x_inv_c (ss_out z188 rfl) <| x_inv_c (ss_out z192 rfl) <| x_inv_c (ss_out z196 rfl) <| x_inv_c (ss_out z200 rfl) <| x_inv_n)
theorem tk_mE {h : xH} {c a b k n : Int32} {w : List (Nat × Value)} {Z : Option Value → xH → Nat → Nat → Prop} (hz : x_inv h (x_LT c a b k w)) (b0 : ¬ n < 1) (b1 : n ≤ 100) (hK : ∀ h' : xH, x_inv h' (x_LT c a b k w) → x_WP 12 471 31 [(2, .int 0), (0, .ref 114), (1, .int n)] [] h' 0 0 Z) : x_WP 12 471 0 (lv_args 0 [.ref 114, .int n]) [] h 0 0 Z := by
  obtain ⟨z0, z2, z5, z8, z9, z11, z12, z18, z19, z27, z31, z32, z36, z37, z41, z42, z43, z51, z55, z56, z60, z61, z65, z66, z67, z75, z79, z80, z84, z85, z89, z90, z91, z99, z103, z104, z108, z109, z113, z114, z115, z136, z139, z140, z144, z148, z152, z155, z156, z160, z164, z168, z171, z172, z176, z180, z184, z187, z188, z192, z196, z200, -⟩ := hz
  refine wp_ov ?_
  iterate 4 refine wp_1 rfl ?_
  refine wp_pc (if_neg b0) ?_
  iterate 3 refine wp_1 rfl ?_
  refine wp_pc (if_pos b1) ?_
  refine wp_1 rfl ?_
  refine wp_put rfl (ss_out z114 rfl) rfl rfl rfl ?_
  refine wp_1 rfl ?_
  refine wp_get rfl (ss_in z114 rfl) rfl rfl ?_
  iterate 3 refine wp_1 rfl ?_
  refine hK _ ?_
  exact (x_inv_c (ss_out z0 rfl) <| x_inv_c (ss_out z2 rfl) <| x_inv_c (ss_out z5 rfl) <| x_inv_c (ss_out z8 rfl) <| x_inv_c (ss_out z9 rfl) <| x_inv_c (ss_out z11 rfl) <| x_inv_c (ss_out z12 rfl) <| x_inv_c (ss_out z18 rfl) <| x_inv_c (ss_out z19 rfl) <| x_inv_c (ss_out z27 rfl) <| x_inv_c (ss_out z31 rfl) <| x_inv_c (ss_out z32 rfl) <| x_inv_c (ss_out z36 rfl) <| x_inv_c (ss_out z37 rfl) <| x_inv_c (ss_out z41 rfl) <| x_inv_c (ss_out z42 rfl) <| x_inv_c (ss_out z43 rfl) <| x_inv_c (ss_out z51 rfl) <| x_inv_c (ss_out z55 rfl) <| x_inv_c (ss_out z56 rfl) <| x_inv_c (ss_out z60 rfl) <| x_inv_c (ss_out z61 rfl) <| x_inv_c (ss_out z65 rfl) <| x_inv_c (ss_out z66 rfl) <| x_inv_c (ss_out z67 rfl) <| x_inv_c (ss_out z75 rfl) <| x_inv_c (ss_out z79 rfl) <| x_inv_c (ss_out z80 rfl) <| x_inv_c (ss_out z84 rfl) <| x_inv_c (ss_out z85 rfl) <| x_inv_c (ss_out z89 rfl) <| x_inv_c (ss_out z90 rfl) <| x_inv_c (ss_out z91 rfl) <| x_inv_c (ss_out z99 rfl) <| x_inv_c (ss_out z103 rfl) <| x_inv_c (ss_out z104 rfl) <| x_inv_c (ss_out z108 rfl) <| x_inv_c (ss_out z109 rfl) <| x_inv_c (ss_out z113 rfl) <| x_inv_c (ss_in z114 rfl) <| x_inv_c (ss_out z115 rfl) <| x_inv_c (ss_out z136 rfl) <| x_inv_c (ss_out z139 rfl) <| x_inv_c (ss_out z140 rfl) <| x_inv_c (ss_out z144 rfl) <| x_inv_c (ss_out z148 rfl) <| x_inv_c (ss_out z152 rfl) <| x_inv_c (ss_out z155 rfl) <| x_inv_c (ss_out z156 rfl) <| x_inv_c (ss_out z160 rfl) <| x_inv_c (ss_out z164 rfl) <| x_inv_c (ss_out z168 rfl) <| x_inv_c (ss_out z171 rfl) <| x_inv_c (ss_out z172 rfl) <| x_inv_c (ss_out z176 rfl) <| x_inv_c (ss_out z180 rfl) <| x_inv_c (ss_out z184 rfl) <| x_inv_c (ss_out z187 rfl) <| x_inv_c (ss_out z188 rfl) <| x_inv_c (ss_out z192 rfl) <| x_inv_c (ss_out z196 rfl) <| x_inv_c (ss_out z200 rfl) <| x_inv_n)
theorem i32_lt {i m : Nat} (h1 : i < m) (h2 : m ≤ 100) : ¬ Int32.ofNat m ≤ Int32.ofNat i := by
  rw [Int32.le_iff_toInt_le, Int32.toInt_ofNat_of_lt (by omega), Int32.toInt_ofNat_of_lt (by omega)]
  omega
theorem i32_su (i : Nat) : Int32.ofNat i + 1 = Int32.ofNat (i + 1) := (Int32.ofNat_add i 1).symm
theorem tk_lC {m : Nat} {k : Int32} {w : List (Nat × Value)} {Z : Option Value → xH → Nat → Nat → Prop} (hm : m ≤ 100) (hK : ∀ (h' : xH) (a b : Int32), x_inv h' (x_LT (Int32.ofNat m) a b k w) → Z (some (.int (Int32.ofNat m))) h' 0 0) : ∀ (r i : Nat) (h : xH) (a b y : Int32), i + r = m → x_inv h (x_LT (Int32.ofNat i) a b k w) → x_WP 11 292 21 [(2, .int (Int32.ofNat i)), (3, .int y), (0, .ref 0), (1, .int (Int32.ofNat m))] [] h 0 0 Z := by
  intro r
  induction r with
  | zero =>
    intro i h a b y hi hz
    have e : i = m := by omega
    subst e
    iterate 3 refine wp_1 rfl ?_
    refine wp_pc (if_pos (Int32.le_refl _)) ?_
    refine wp_1 rfl ?_
    refine wp_get rfl (x_inv_1 hz) rfl rfl ?_
    exact wp_r rfl (hK _ _ _ hz)
  | succ r ih =>
    intro i h a b y hi hz
    refine tk_c1 hz (i32_lt (by omega) hm) (fun h' y' hz' => ?_)
    rw [i32_su] at hz' ⊢
    exact ih _ _ _ _ _ (by omega) hz'
theorem tk_lM {m : Nat} {c a b : Int32} {w : List (Nat × Value)} {Z : Option Value → xH → Nat → Nat → Prop} (hm : m ≤ 100) (hK : ∀ (h' : xH), x_inv h' (x_LT c a b (Int32.ofNat m) w) → Z (some (.int (Int32.ofNat m))) h' 0 0) : ∀ (r i : Nat) (h : xH) (y : Int32), i + r = m → x_inv h (x_LT c a b (Int32.ofNat i) w) → x_WP 12 471 31 [(2, .int (Int32.ofNat i)), (3, .int y), (0, .ref 114), (1, .int (Int32.ofNat m))] [] h 0 0 Z := by
  intro r
  induction r with
  | zero =>
    intro i h y hi hz
    have e : i = m := by omega
    subst e
    iterate 3 refine wp_1 rfl ?_
    refine wp_pc (if_pos (Int32.le_refl _)) ?_
    refine wp_1 rfl ?_
    refine wp_get rfl (x_inv_1 (x_inv_2 (x_inv_2 (x_inv_2 (x_inv_2 (x_inv_2 (x_inv_2 (x_inv_2 (x_inv_2 (x_inv_2 (x_inv_2 (x_inv_2 (x_inv_2 (x_inv_2 (x_inv_2 (x_inv_2 (x_inv_2 (x_inv_2 (x_inv_2 (x_inv_2 (x_inv_2 (x_inv_2 (x_inv_2 (x_inv_2 (x_inv_2 (x_inv_2 (x_inv_2 (x_inv_2 (x_inv_2 (x_inv_2 (x_inv_2 (x_inv_2 (x_inv_2 (x_inv_2 (x_inv_2 (x_inv_2 (x_inv_2 (x_inv_2 (x_inv_2 (x_inv_2 hz)))))))))))))))))))))))))))))))))))))))) rfl rfl ?_
    exact wp_r rfl (hK _ hz)
  | succ r ih =>
    intro i h y hi hz
    refine tk_m1 hz (i32_lt (by omega) hm) (fun h' y' hz' => ?_)
    rw [i32_su] at hz' ⊢
    exact ih _ _ _ (by omega) hz'
theorem i32_b {m : Nat} (h1 : 1 ≤ m) (h2 : m ≤ 100) : ¬ Int32.ofNat m < 1 ∧ Int32.ofNat m ≤ 100 := by
  constructor
  · rw [Int32.lt_iff_toInt_lt, Int32.toInt_ofNat_of_lt (by omega)]
    show ¬ ((m : Int) < 1)
    omega
  · rw [Int32.le_iff_toInt_le, Int32.toInt_ofNat_of_lt (by omega)]
    show (m : Int) ≤ 100
    omega
theorem tk_C {m : Nat} (h1 : 1 ≤ m) (h2 : m ≤ 100) {h : xH} {a b k : Int32} {w : List (Nat × Value)} {Z : Option Value → xH → Nat → Nat → Prop} (hz : x_inv h (x_LT 0 a b k w)) (hK : ∀ (h' : xH) (a b : Int32), x_inv h' (x_LT (Int32.ofNat m) a b k w) → Z (some (.int (Int32.ofNat m))) h' 0 0) : x_WP 11 292 0 (lv_args 0 [.ref 0, .int (Int32.ofNat m)]) [] h 0 0 Z := by
  refine tk_cE hz (i32_b h1 h2).1 (i32_b h1 h2).2 (fun h' hz' => ?_)
  have e1 : (0 : Int32) + 1 = Int32.ofNat 1 := by decide
  refine tk_c0 hz' (i32_lt (i := 0) h1 h2) (fun h2' y' hz2 => ?_)
  rw [e1] at hz2 ⊢
  exact tk_lC h2 hK (m - 1) 1 _ _ _ _ (by omega) hz2
theorem tk_M {m : Nat} (h1 : 1 ≤ m) (h2 : m ≤ 100) {h : xH} {c a b : Int32} {w : List (Nat × Value)} {Z : Option Value → xH → Nat → Nat → Prop} (hz : x_inv h (x_LT c a b 0 w)) (hK : ∀ (h' : xH), x_inv h' (x_LT c a b (Int32.ofNat m) w) → Z (some (.int (Int32.ofNat m))) h' 0 0) : x_WP 12 471 0 (lv_args 0 [.ref 114, .int (Int32.ofNat m)]) [] h 0 0 Z := by
  refine tk_mE hz (i32_b h1 h2).1 (i32_b h1 h2).2 (fun h' hz' => ?_)
  have e1 : (0 : Int32) + 1 = Int32.ofNat 1 := by decide
  refine tk_m0 hz' (i32_lt (i := 0) h1 h2) (fun h2' y' hz2 => ?_)
  rw [e1] at hz2 ⊢
  exact tk_lM h2 hK (m - 1) 1 _ _ (by omega) hz2
/-- a helper that returns, and the reference's call behind it -/
def x_norm (jh j2 : Nat) (as : List Value) (h : xH) (Y : Value → Int64 → Prop) (b1 b2 : Nat) : Prop := x_WP 12 jh 0 (lv_args 0 (.ref 0 :: (as ++ [.ref 200]))) [] h 0 0 (fun u h1 mc1 ms1 => u = some (.int 0) ∧ (∃ f, h1[114]? = some (.inr (20, f))) ∧ mc1 ≤ b1 ∧ ms1 ≤ b2 ∧ x_rfW j2 as h1 0 (fun v h3 => ∃ A, h3[200]? = some (.inl (4, 1, A)) ∧ Y v (x_lng A 0)) b1 b2)
theorem tk_all {m : Nat} (h1 : 1 ≤ m) (h2 : m ≤ 100) : x_norm 492 471 [.int (Int32.ofNat m)] x_hL (fun v w => ∃ i : Int32, v = .int i ∧ i.toInt64 = w) 10 100 := by
  have hz0 : x_inv x_hL (x_LT 0 0 0 0 []) := x_invb_ok (by decide +kernel)
  unfold x_norm
  iterate 4 refine wp_1 rfl ?_
  refine wp_callV rfl rfl (x_inv_1 hz0) rfl rfl rfl ?_
  refine tk_C h1 h2 hz0 (fun h' a b hz => ?_)
  refine wp_1 rfl ?_
  refine wp_ov ?_
  have hz9 := hz
  obtain ⟨z0, z2, z5, z8, z9, z11, z12, z18, z19, z27, z31, z32, z36, z37, z41, z42, z43, z51, z55, z56, z60, z61, z65, z66, z67, z75, z79, z80, z84, z85, z89, z90, z91, z99, z103, z104, z108, z109, z113, z114, z115, z136, z139, z140, z144, z148, z152, z155, z156, z160, z164, z168, z171, z172, z176, z180, z184, z187, z188, z192, z196, z200, -⟩ := hz9
  refine wp_last rfl (ss_out z200 rfl) rfl ?_
  iterate 2 refine wp_1 rfl ?_
  have hz3 : x_inv (x_ss h' [(200, .inl (4, 1, [(0, .long (Int32.ofNat m).toInt64)]))]) (x_LT (Int32.ofNat m) a b 0 [(0, .long (Int32.ofNat m).toInt64)]) := (x_inv_c (ss_out z0 rfl) <| x_inv_c (ss_out z2 rfl) <| x_inv_c (ss_out z5 rfl) <| x_inv_c (ss_out z8 rfl) <| x_inv_c (ss_out z9 rfl) <| x_inv_c (ss_out z11 rfl) <| x_inv_c (ss_out z12 rfl) <| x_inv_c (ss_out z18 rfl) <| x_inv_c (ss_out z19 rfl) <| x_inv_c (ss_out z27 rfl) <| x_inv_c (ss_out z31 rfl) <| x_inv_c (ss_out z32 rfl) <| x_inv_c (ss_out z36 rfl) <| x_inv_c (ss_out z37 rfl) <| x_inv_c (ss_out z41 rfl) <| x_inv_c (ss_out z42 rfl) <| x_inv_c (ss_out z43 rfl) <| x_inv_c (ss_out z51 rfl) <| x_inv_c (ss_out z55 rfl) <| x_inv_c (ss_out z56 rfl) <| x_inv_c (ss_out z60 rfl) <| x_inv_c (ss_out z61 rfl) <| x_inv_c (ss_out z65 rfl) <| x_inv_c (ss_out z66 rfl) <| x_inv_c (ss_out z67 rfl) <| x_inv_c (ss_out z75 rfl) <| x_inv_c (ss_out z79 rfl) <| x_inv_c (ss_out z80 rfl) <| x_inv_c (ss_out z84 rfl) <| x_inv_c (ss_out z85 rfl) <| x_inv_c (ss_out z89 rfl) <| x_inv_c (ss_out z90 rfl) <| x_inv_c (ss_out z91 rfl) <| x_inv_c (ss_out z99 rfl) <| x_inv_c (ss_out z103 rfl) <| x_inv_c (ss_out z104 rfl) <| x_inv_c (ss_out z108 rfl) <| x_inv_c (ss_out z109 rfl) <| x_inv_c (ss_out z113 rfl) <| x_inv_c (ss_out z114 rfl) <| x_inv_c (ss_out z115 rfl) <| x_inv_c (ss_out z136 rfl) <| x_inv_c (ss_out z139 rfl) <| x_inv_c (ss_out z140 rfl) <| x_inv_c (ss_out z144 rfl) <| x_inv_c (ss_out z148 rfl) <| x_inv_c (ss_out z152 rfl) <| x_inv_c (ss_out z155 rfl) <| x_inv_c (ss_out z156 rfl) <| x_inv_c (ss_out z160 rfl) <| x_inv_c (ss_out z164 rfl) <| x_inv_c (ss_out z168 rfl) <| x_inv_c (ss_out z171 rfl) <| x_inv_c (ss_out z172 rfl) <| x_inv_c (ss_out z176 rfl) <| x_inv_c (ss_out z180 rfl) <| x_inv_c (ss_out z184 rfl) <| x_inv_c (ss_out z187 rfl) <| x_inv_c (ss_out z188 rfl) <| x_inv_c (ss_out z192 rfl) <| x_inv_c (ss_out z196 rfl) <| x_inv_c (ss_in z200 rfl) <| x_inv_n)
  refine wp_r rfl ⟨rfl, ⟨_, (x_inv_1 (x_inv_2 (x_inv_2 (x_inv_2 (x_inv_2 (x_inv_2 (x_inv_2 (x_inv_2 (x_inv_2 (x_inv_2 (x_inv_2 (x_inv_2 (x_inv_2 (x_inv_2 (x_inv_2 (x_inv_2 (x_inv_2 (x_inv_2 (x_inv_2 (x_inv_2 (x_inv_2 (x_inv_2 (x_inv_2 (x_inv_2 (x_inv_2 (x_inv_2 (x_inv_2 (x_inv_2 (x_inv_2 (x_inv_2 (x_inv_2 (x_inv_2 (x_inv_2 (x_inv_2 (x_inv_2 (x_inv_2 (x_inv_2 (x_inv_2 (x_inv_2 (x_inv_2 hz3))))))))))))))))))))))))))))))))))))))))⟩, Nat.le_of_ble_eq_true rfl, Nat.le_of_ble_eq_true rfl, ?_⟩
  refine tk_M h1 h2 hz3 (fun h4 hz => ?_)
  refine ⟨_, _, rfl, (x_inv_1 (x_inv_2 (x_inv_2 (x_inv_2 (x_inv_2 (x_inv_2 (x_inv_2 (x_inv_2 (x_inv_2 (x_inv_2 (x_inv_2 (x_inv_2 (x_inv_2 (x_inv_2 (x_inv_2 (x_inv_2 (x_inv_2 (x_inv_2 (x_inv_2 (x_inv_2 (x_inv_2 (x_inv_2 (x_inv_2 (x_inv_2 (x_inv_2 (x_inv_2 (x_inv_2 (x_inv_2 (x_inv_2 (x_inv_2 (x_inv_2 (x_inv_2 (x_inv_2 (x_inv_2 (x_inv_2 (x_inv_2 (x_inv_2 (x_inv_2 (x_inv_2 (x_inv_2 hz)))))))))))))))))))))))))))))))))))))))), ?_⟩
  refine wp_1 rfl ?_
  refine wp_get rfl (x_inv_1 (x_inv_2 (x_inv_2 (x_inv_2 (x_inv_2 (x_inv_2 (x_inv_2 (x_inv_2 (x_inv_2 (x_inv_2 (x_inv_2 (x_inv_2 (x_inv_2 (x_inv_2 (x_inv_2 (x_inv_2 (x_inv_2 (x_inv_2 (x_inv_2 (x_inv_2 (x_inv_2 (x_inv_2 (x_inv_2 (x_inv_2 (x_inv_2 (x_inv_2 (x_inv_2 (x_inv_2 (x_inv_2 (x_inv_2 (x_inv_2 (x_inv_2 (x_inv_2 (x_inv_2 (x_inv_2 (x_inv_2 (x_inv_2 (x_inv_2 (x_inv_2 (x_inv_2 hz)))))))))))))))))))))))))))))))))))))))) rfl rfl ?_
  exact wp_r rfl ⟨rfl, ⟨_, (x_inv_1 (x_inv_2 (x_inv_2 (x_inv_2 (x_inv_2 (x_inv_2 (x_inv_2 (x_inv_2 (x_inv_2 (x_inv_2 (x_inv_2 (x_inv_2 (x_inv_2 (x_inv_2 (x_inv_2 (x_inv_2 (x_inv_2 (x_inv_2 (x_inv_2 (x_inv_2 (x_inv_2 (x_inv_2 (x_inv_2 (x_inv_2 (x_inv_2 (x_inv_2 (x_inv_2 (x_inv_2 (x_inv_2 (x_inv_2 (x_inv_2 (x_inv_2 (x_inv_2 (x_inv_2 (x_inv_2 (x_inv_2 (x_inv_2 (x_inv_2 (x_inv_2 (x_inv_2 (x_inv_2 (x_inv_2 (x_inv_2 (x_inv_2 (x_inv_2 (x_inv_2 (x_inv_2 (x_inv_2 (x_inv_2 (x_inv_2 (x_inv_2 (x_inv_2 (x_inv_2 (x_inv_2 (x_inv_2 (x_inv_2 (x_inv_2 (x_inv_2 (x_inv_2 (x_inv_2 (x_inv_2 (x_inv_2 hz)))))))))))))))))))))))))))))))))))))))))))))))))))))))))))))), _, rfl, rfl⟩, Nat.le_of_ble_eq_true rfl, Nat.le_of_ble_eq_true rfl⟩
end XTick3
