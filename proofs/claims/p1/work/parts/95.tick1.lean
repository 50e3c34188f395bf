section XTick
def x_inv (h : xH) : List (Nat × xE) → Prop
  | [] => True
  | q :: r => h[q.1]? = some q.2 ∧ x_inv h r
theorem x_inv_c {h : xH} {q : Nat × xE} {r : List (Nat × xE)} (a : h[q.1]? = some q.2) (b : x_inv h r) : x_inv h (q :: r) := And.intro a b
theorem x_inv_n {h : xH} : x_inv h [] := trivial
theorem x_inv_1 {h : xH} {q : Nat × xE} {r : List (Nat × xE)} (a : x_inv h (q :: r)) : h[q.1]? = some q.2 := And.left a
theorem x_inv_2 {h : xH} {q : Nat × xE} {r : List (Nat × xE)} (a : x_inv h (q :: r)) : x_inv h r := And.right a
def x_invb (h : xH) : List (Nat × xE) → Bool
  | [] => true
  | q :: r => (match h[q.1]? with
    | some c => x_eqE c q.2
    | none => false) && x_invb h r
theorem x_invb_ok {h : xH} {l : List (Nat × xE)} (hb : x_invb h l = true) : x_inv h l := by
  induction l with
  | nil => trivial
  | cons q r ih =>
    unfold x_invb at hb
    rw [Bool.and_eq_true] at hb
    refine ⟨?_, ih hb.2⟩
    have h1 := hb.1
    split at h1
    · rename_i c e
      rw [e, x_eqE_eq h1]
    · cases h1
def x_LT (c a b k : Int32) (w : List (Nat × Value)) : List (Nat × xE) := [(0, .inr (0, [.ref 1, .int 0, .ref 2, .ref 3, .ref 4, .ref 5, .ref 6, .ref 7, .ref 8, .ref 9, .ref 10, .ref 11, .ref 14, .ref 16, .int 0, .int c, .int 0, .int 0, .int 0, .int 0, .int 0])),
  (2, .inl (5, 4, [(3, .ref 90), (2, .ref 66), (1, .ref 42), (0, .ref 18)])),
  (5, .inr (2, [.ref 1000000000, .int 0, .int 0])),
  (8, .inr (2, [.ref 1000000000, .int 0, .int 0])),
  (9, .inr (2, [.ref 1000000000, .int 0, .int a])),
  (11, .inr (3, [.ref 12, .ref 13])),
  (12, .inr (2, [.ref 1000000000, .int 0, .int b])),
  (18, .inr (6, [.ref 19, .int 0, .int 0, .int 0, .int 0, .int 0, .ref 20, .int 0, .int 0, .ref 21, .int 0, .int 0, .int 0, .int 0])),
  (19, .inl (6, 4, [(3, .ref 37), (2, .ref 32), (1, .ref 27), (0, .ref 22)])),
  (27, .inr (7, [.ref 18, .int 1, .int 0, .int 0, .int 1, .int 0, .int 0, .int 0, .int 0, .int 0, .ref 1000000101, .int 0, .null, .int 0, .ref 28, .int 0, .int 0, .ref 29, .ref 30, .ref 31])),
  (31, .inr (2, [.ref 1000000000, .int 0, .int b])),
  (32, .inr (7, [.ref 18, .int 2, .int 0, .int 0, .int 1, .int 0, .int 0, .int 0, .int 0, .int 0, .ref 1000000101, .int 0, .null, .int 0, .ref 33, .int 0, .int 0, .ref 34, .ref 35, .ref 36])),
  (36, .inr (2, [.ref 1000000000, .int 0, .int b])),
  (37, .inr (7, [.ref 18, .int 3, .int 0, .int 0, .int 1, .int 0, .int 0, .int 0, .int 0, .int 0, .ref 1000000101, .int 0, .null, .int 0, .ref 38, .int 0, .int 0, .ref 39, .ref 40, .ref 41])),
  (41, .inr (2, [.ref 1000000000, .int 0, .int b])),
  (42, .inr (6, [.ref 43, .int 0, .int 0, .int 0, .int 0, .int 0, .ref 44, .int 0, .int 0, .ref 45, .int 0, .int 0, .int 0, .int 0])),
  (43, .inl (6, 4, [(3, .ref 61), (2, .ref 56), (1, .ref 51), (0, .ref 46)])),
  (51, .inr (7, [.ref 42, .int 1, .int 0, .int 0, .int 1, .int 0, .int 0, .int 0, .int 0, .int 0, .ref 1000000101, .int 0, .null, .int 0, .ref 52, .int 0, .int 0, .ref 53, .ref 54, .ref 55])),
  (55, .inr (2, [.ref 1000000000, .int 0, .int b])),
  (56, .inr (7, [.ref 42, .int 2, .int 0, .int 0, .int 1, .int 0, .int 0, .int 0, .int 0, .int 0, .ref 1000000101, .int 0, .null, .int 0, .ref 57, .int 0, .int 0, .ref 58, .ref 59, .ref 60])),
  (60, .inr (2, [.ref 1000000000, .int 0, .int b])),
  (61, .inr (7, [.ref 42, .int 3, .int 0, .int 0, .int 1, .int 0, .int 0, .int 0, .int 0, .int 0, .ref 1000000101, .int 0, .null, .int 0, .ref 62, .int 0, .int 0, .ref 63, .ref 64, .ref 65])),
  (65, .inr (2, [.ref 1000000000, .int 0, .int b])),
  (66, .inr (6, [.ref 67, .int 0, .int 0, .int 0, .int 0, .int 0, .ref 68, .int 0, .int 0, .ref 69, .int 0, .int 0, .int 0, .int 0])),
  (67, .inl (6, 4, [(3, .ref 85), (2, .ref 80), (1, .ref 75), (0, .ref 70)])),
  (75, .inr (7, [.ref 66, .int 1, .int 0, .int 0, .int 1, .int 0, .int 0, .int 0, .int 0, .int 0, .ref 1000000101, .int 0, .null, .int 0, .ref 76, .int 0, .int 0, .ref 77, .ref 78, .ref 79])),
  (79, .inr (2, [.ref 1000000000, .int 0, .int b])),
  (80, .inr (7, [.ref 66, .int 2, .int 0, .int 0, .int 1, .int 0, .int 0, .int 0, .int 0, .int 0, .ref 1000000101, .int 0, .null, .int 0, .ref 81, .int 0, .int 0, .ref 82, .ref 83, .ref 84])),
  (84, .inr (2, [.ref 1000000000, .int 0, .int b])),
  (85, .inr (7, [.ref 66, .int 3, .int 0, .int 0, .int 1, .int 0, .int 0, .int 0, .int 0, .int 0, .ref 1000000101, .int 0, .null, .int 0, .ref 86, .int 0, .int 0, .ref 87, .ref 88, .ref 89])),
  (89, .inr (2, [.ref 1000000000, .int 0, .int b])),
  (90, .inr (6, [.ref 91, .int 0, .int 0, .int 0, .int 0, .int 0, .ref 92, .int 0, .int 0, .ref 93, .int 0, .int 0, .int 0, .int 0])),
  (91, .inl (6, 4, [(3, .ref 109), (2, .ref 104), (1, .ref 99), (0, .ref 94)])),
  (99, .inr (7, [.ref 90, .int 1, .int 0, .int 0, .int 1, .int 0, .int 0, .int 0, .int 0, .int 0, .ref 1000000101, .int 0, .null, .int 0, .ref 100, .int 0, .int 0, .ref 101, .ref 102, .ref 103])),
  (103, .inr (2, [.ref 1000000000, .int 0, .int b])),
  (104, .inr (7, [.ref 90, .int 2, .int 0, .int 0, .int 1, .int 0, .int 0, .int 0, .int 0, .int 0, .ref 1000000101, .int 0, .null, .int 0, .ref 105, .int 0, .int 0, .ref 106, .ref 107, .ref 108])),
  (108, .inr (2, [.ref 1000000000, .int 0, .int b])),
  (109, .inr (7, [.ref 90, .int 3, .int 0, .int 0, .int 1, .int 0, .int 0, .int 0, .int 0, .int 0, .ref 1000000101, .int 0, .null, .int 0, .ref 110, .int 0, .int 0, .ref 111, .ref 112, .ref 113])),
  (113, .inr (2, [.ref 1000000000, .int 0, .int b])),
  (114, .inr (20, [.ref 115, .ref 116, .ref 117, .ref 118, .ref 119, .int 0, .int 0, .int 0, .int 0, .int 0, .int 0, .int 0, .int k, .int 0, .ref 120, .int 0, .ref 121, .int 0, .ref 122, .ref 123, .ref 124, .ref 125, .int 0, .int 0, .int 0, .int 0, .ref 126, .int 0, .int 0, .ref 127, .int 0, .int 0, .int 0, .int 0, .int 0, .ref 128, .int 0, .int 0, .ref 129, .ref 130, .ref 131, .ref 132, .ref 133, .ref 134, .ref 135, .int 0])),
  (115, .inl (9, 4, [(3, .ref 184), (2, .ref 168), (1, .ref 152), (0, .ref 136)])),
  (136, .inr (21, [.int 0, .int 0, .int 0, .int 0, .int 0, .int 0, .int 0, .int 0, .int 0, .int 0, .ref 137, .ref 138, .ref 139])),
  (139, .inl (17, 4, [(3, .ref 148), (2, .ref 144), (1, .ref 140)])),
  (140, .inr (22, [.ref 136, .int 1, .int 0, .int 0, .int 0, .int 0, .int 0, .int 0, .int 0, .int 0, .int 0, .int 0, .int 0, .int 0, .null, .null, .ref 141, .ref 142, .ref 143])),
  (144, .inr (22, [.ref 136, .int 2, .int 0, .int 0, .int 0, .int 0, .int 0, .int 0, .int 0, .int 0, .int 0, .int 0, .int 0, .int 0, .null, .null, .ref 145, .ref 146, .ref 147])),
  (148, .inr (22, [.ref 136, .int 3, .int 0, .int 0, .int 0, .int 0, .int 0, .int 0, .int 0, .int 0, .int 0, .int 0, .int 0, .int 0, .null, .null, .ref 149, .ref 150, .ref 151])),
  (152, .inr (21, [.int 1, .int 0, .int 0, .int 0, .int 0, .int 0, .int 0, .int 0, .int 0, .int 0, .ref 153, .ref 154, .ref 155])),
  (155, .inl (17, 4, [(3, .ref 164), (2, .ref 160), (1, .ref 156)])),
  (156, .inr (22, [.ref 152, .int 1, .int 0, .int 0, .int 0, .int 0, .int 0, .int 0, .int 0, .int 0, .int 0, .int 0, .int 0, .int 0, .null, .null, .ref 157, .ref 158, .ref 159])),
  (160, .inr (22, [.ref 152, .int 2, .int 0, .int 0, .int 0, .int 0, .int 0, .int 0, .int 0, .int 0, .int 0, .int 0, .int 0, .int 0, .null, .null, .ref 161, .ref 162, .ref 163])),
  (164, .inr (22, [.ref 152, .int 3, .int 0, .int 0, .int 0, .int 0, .int 0, .int 0, .int 0, .int 0, .int 0, .int 0, .int 0, .int 0, .null, .null, .ref 165, .ref 166, .ref 167])),
  (168, .inr (21, [.int 2, .int 0, .int 0, .int 0, .int 0, .int 0, .int 0, .int 0, .int 0, .int 0, .ref 169, .ref 170, .ref 171])),
  (171, .inl (17, 4, [(3, .ref 180), (2, .ref 176), (1, .ref 172)])),
  (172, .inr (22, [.ref 168, .int 1, .int 0, .int 0, .int 0, .int 0, .int 0, .int 0, .int 0, .int 0, .int 0, .int 0, .int 0, .int 0, .null, .null, .ref 173, .ref 174, .ref 175])),
  (176, .inr (22, [.ref 168, .int 2, .int 0, .int 0, .int 0, .int 0, .int 0, .int 0, .int 0, .int 0, .int 0, .int 0, .int 0, .int 0, .null, .null, .ref 177, .ref 178, .ref 179])),
  (180, .inr (22, [.ref 168, .int 3, .int 0, .int 0, .int 0, .int 0, .int 0, .int 0, .int 0, .int 0, .int 0, .int 0, .int 0, .int 0, .null, .null, .ref 181, .ref 182, .ref 183])),
  (184, .inr (21, [.int 3, .int 0, .int 0, .int 0, .int 0, .int 0, .int 0, .int 0, .int 0, .int 0, .ref 185, .ref 186, .ref 187])),
  (187, .inl (17, 4, [(3, .ref 196), (2, .ref 192), (1, .ref 188)])),
  (188, .inr (22, [.ref 184, .int 1, .int 0, .int 0, .int 0, .int 0, .int 0, .int 0, .int 0, .int 0, .int 0, .int 0, .int 0, .int 0, .null, .null, .ref 189, .ref 190, .ref 191])),
  (192, .inr (22, [.ref 184, .int 2, .int 0, .int 0, .int 0, .int 0, .int 0, .int 0, .int 0, .int 0, .int 0, .int 0, .int 0, .int 0, .null, .null, .ref 193, .ref 194, .ref 195])),
  (196, .inr (22, [.ref 184, .int 3, .int 0, .int 0, .int 0, .int 0, .int 0, .int 0, .int 0, .int 0, .int 0, .int 0, .int 0, .int 0, .null, .null, .ref 197, .ref 198, .ref 199])),
  (200, .inl (4, 1, w))]
set_option maxHeartbeats 4000000 in
theorem tk_c0 {h : xH} {c a b k i n : Int32} {w : List (Nat × Value)} {Z : Option Value → xH → Nat → Nat → Prop} (hz : x_inv h (x_LT c a b k w)) (b0 : ¬ n ≤ i) (hK : ∀ (h' : xH) (y' : Int32), x_inv h' (x_LT (c + 1) (a + 1 + 1) (b + 1) k w) → x_WP 11 292 21 [(2, .int (i + 1)), (3, .int y'), (0, .ref 0), (1, .int n)] [] h' 0 0 Z) : x_WP 11 292 21 [(2, .int i), (0, .ref 0), (1, .int n)] [] h 0 0 Z := by
  obtain ⟨z0, z2, z5, z8, z9, z11, z12, z18, z19, z27, z31, z32, z36, z37, z41, z42, z43, z51, z55, z56, z60, z61, z65, z66, z67, z75, z79, z80, z84, z85, z89, z90, z91, z99, z103, z104, z108, z109, z113, z114, z115, z136, z139, z140, z144, z148, z152, z155, z156, z160, z164, z168, z171, z172, z176, z180, z184, z187, z188, z192, z196, z200, -⟩ := hz
  refine wp_ov ?_
  iterate 3 refine wp_1 rfl ?_
  refine wp_pc (if_neg b0) ?_
  refine wp_1 rfl ?_
  refine wp_get rfl (ss_out z0 rfl) rfl rfl ?_
  refine wp_1 rfl ?_
  refine wp_get rfl (ss_out z0 rfl) rfl rfl ?_
  refine wp_get rfl (ss_out z11 rfl) rfl rfl ?_
  refine wp_callV rfl rfl (ss_out z12 rfl) rfl rfl rfl ?_
  refine wp_1 rfl ?_
  refine wp_get rfl (ss_out z12 rfl) rfl rfl ?_
  refine wp_r rfl ?_
  refine wp_callV rfl rfl (ss_out z11 rfl) rfl rfl rfl ?_
  iterate 6 refine wp_1 rfl ?_
  refine wp_get rfl (ss_out z11 rfl) rfl rfl ?_
  refine wp_callV rfl rfl (ss_out z12 rfl) rfl rfl rfl ?_
  iterate 2 refine wp_1 rfl ?_
  refine wp_get rfl (ss_out z12 rfl) rfl rfl ?_
  iterate 2 refine wp_1 rfl ?_
  refine wp_put rfl (ss_out z12 rfl) rfl rfl rfl ?_
  refine wp_1 rfl ?_
  refine wp_get rfl (ss_in z12 rfl) rfl rfl ?_
  iterate 2 refine wp_1 rfl ?_
  refine wp_get rfl (ss_in z12 rfl) rfl rfl ?_
  iterate 4 refine wp_1 rfl ?_
  refine wp_put rfl (ss_in z12 rfl) rfl rfl rfl ?_
  iterate 4 refine wp_1 rfl ?_
  refine wp_r rfl ?_
  refine wp_r rfl ?_
  refine wp_1 rfl ?_
  refine wp_callV rfl rfl (ss_out z0 rfl) rfl rfl rfl ?_
  iterate 11 refine wp_1 rfl ?_
  refine wp_get rfl (ss_out z0 rfl) rfl rfl ?_
  refine wp_1 rfl ?_
  refine wp_aald rfl (ss_out z2 rfl) rfl rfl ?_
  refine wp_get rfl (ss_out z18 rfl) rfl rfl ?_
  refine wp_1 rfl ?_
  refine wp_aald rfl (ss_out z19 rfl) rfl rfl ?_
  iterate 5 refine wp_1 rfl ?_
  refine wp_get rfl (ss_out z27 rfl) rfl rfl ?_
  refine wp_callV rfl rfl (ss_out z31 rfl) rfl rfl rfl ?_
  refine wp_1 rfl ?_
  refine wp_get rfl (ss_out z31 rfl) rfl rfl ?_
  refine wp_r rfl ?_
  iterate 2 refine wp_1 rfl ?_
  refine wp_get rfl (ss_out z27 rfl) rfl rfl ?_
  refine wp_callV rfl rfl (ss_out z31 rfl) rfl rfl rfl ?_
  iterate 2 refine wp_1 rfl ?_
  refine wp_get rfl (ss_out z31 rfl) rfl rfl ?_
  iterate 2 refine wp_1 rfl ?_
  refine wp_put rfl (ss_out z31 rfl) rfl rfl rfl ?_
  refine wp_1 rfl ?_
  refine wp_get rfl (ss_in z31 rfl) rfl rfl ?_
  iterate 2 refine wp_1 rfl ?_
  refine wp_get rfl (ss_in z31 rfl) rfl rfl ?_
  iterate 4 refine wp_1 rfl ?_
  refine wp_put rfl (ss_in z31 rfl) rfl rfl rfl ?_
  iterate 4 refine wp_1 rfl ?_
  refine wp_r rfl ?_
  refine wp_1 rfl ?_
  refine wp_lv (lv' := [(2, .int 2), (4, .int 0), (3, .ref 27), (1, .int 0), (0, .ref 0)]) rfl ?_
  iterate 5 refine wp_1 rfl ?_
  refine wp_get rfl (ss_out z0 rfl) rfl rfl ?_
  refine wp_1 rfl ?_
  refine wp_aald rfl (ss_out z2 rfl) rfl rfl ?_
  refine wp_get rfl (ss_out z18 rfl) rfl rfl ?_
  refine wp_1 rfl ?_
  refine wp_aald rfl (ss_out z19 rfl) rfl rfl ?_
  iterate 5 refine wp_1 rfl ?_
  refine wp_get rfl (ss_out z32 rfl) rfl rfl ?_
  refine wp_callV rfl rfl (ss_out z36 rfl) rfl rfl rfl ?_
  refine wp_1 rfl ?_
  refine wp_get rfl (ss_out z36 rfl) rfl rfl ?_
  refine wp_r rfl ?_
  iterate 2 refine wp_1 rfl ?_
  refine wp_get rfl (ss_out z32 rfl) rfl rfl ?_
  refine wp_callV rfl rfl (ss_out z36 rfl) rfl rfl rfl ?_
  iterate 2 refine wp_1 rfl ?_
  refine wp_get rfl (ss_out z36 rfl) rfl rfl ?_
  iterate 2 refine wp_1 rfl ?_
  refine wp_put rfl (ss_out z36 rfl) rfl rfl rfl ?_
  refine wp_1 rfl ?_
  refine wp_get rfl (ss_in z36 rfl) rfl rfl ?_
  iterate 2 refine wp_1 rfl ?_
  refine wp_get rfl (ss_in z36 rfl) rfl rfl ?_
  iterate 4 refine wp_1 rfl ?_
  refine wp_put rfl (ss_in z36 rfl) rfl rfl rfl ?_
  iterate 4 refine wp_1 rfl ?_
  refine wp_r rfl ?_
  refine wp_1 rfl ?_
  refine wp_lv (lv' := [(2, .int 3), (4, .int 0), (3, .ref 32), (1, .int 0), (0, .ref 0)]) rfl ?_
  iterate 5 refine wp_1 rfl ?_
  refine wp_get rfl (ss_out z0 rfl) rfl rfl ?_
  refine wp_1 rfl ?_
  refine wp_aald rfl (ss_out z2 rfl) rfl rfl ?_
  refine wp_get rfl (ss_out z18 rfl) rfl rfl ?_
  refine wp_1 rfl ?_
  refine wp_aald rfl (ss_out z19 rfl) rfl rfl ?_
  iterate 5 refine wp_1 rfl ?_
  refine wp_get rfl (ss_out z37 rfl) rfl rfl ?_
  refine wp_callV rfl rfl (ss_out z41 rfl) rfl rfl rfl ?_
  refine wp_1 rfl ?_
  refine wp_get rfl (ss_out z41 rfl) rfl rfl ?_
  refine wp_r rfl ?_
  iterate 2 refine wp_1 rfl ?_
  refine wp_get rfl (ss_out z37 rfl) rfl rfl ?_
  refine wp_callV rfl rfl (ss_out z41 rfl) rfl rfl rfl ?_
  iterate 2 refine wp_1 rfl ?_
  refine wp_get rfl (ss_out z41 rfl) rfl rfl ?_
  iterate 2 refine wp_1 rfl ?_
  refine wp_put rfl (ss_out z41 rfl) rfl rfl rfl ?_
  refine wp_1 rfl ?_
  refine wp_get rfl (ss_in z41 rfl) rfl rfl ?_
  iterate 2 refine wp_1 rfl ?_
  refine wp_get rfl (ss_in z41 rfl) rfl rfl ?_
  iterate 4 refine wp_1 rfl ?_
  refine wp_put rfl (ss_in z41 rfl) rfl rfl rfl ?_
  iterate 4 refine wp_1 rfl ?_
  refine wp_r rfl ?_
  refine wp_1 rfl ?_
  refine wp_lv (lv' := [(2, .int 4), (4, .int 0), (3, .ref 37), (1, .int 0), (0, .ref 0)]) rfl ?_
  iterate 5 refine wp_1 rfl ?_
  refine wp_lv (lv' := [(1, .int 1), (2, .int 4), (4, .int 0), (3, .ref 37), (0, .ref 0)]) rfl ?_
  iterate 10 refine wp_1 rfl ?_
  refine wp_get rfl (ss_out z0 rfl) rfl rfl ?_
  refine wp_1 rfl ?_
  refine wp_aald rfl (ss_out z2 rfl) rfl rfl ?_
  refine wp_get rfl (ss_out z42 rfl) rfl rfl ?_
  refine wp_1 rfl ?_
  refine wp_aald rfl (ss_out z43 rfl) rfl rfl ?_
  iterate 5 refine wp_1 rfl ?_
  refine wp_get rfl (ss_out z51 rfl) rfl rfl ?_
  refine wp_callV rfl rfl (ss_out z55 rfl) rfl rfl rfl ?_
  refine wp_1 rfl ?_
  refine wp_get rfl (ss_out z55 rfl) rfl rfl ?_
  refine wp_r rfl ?_
  iterate 2 refine wp_1 rfl ?_
  refine wp_get rfl (ss_out z51 rfl) rfl rfl ?_
  refine wp_callV rfl rfl (ss_out z55 rfl) rfl rfl rfl ?_
  iterate 2 refine wp_1 rfl ?_
  refine wp_get rfl (ss_out z55 rfl) rfl rfl ?_
  iterate 2 refine wp_1 rfl ?_
  refine wp_put rfl (ss_out z55 rfl) rfl rfl rfl ?_
  refine wp_1 rfl ?_
  refine wp_get rfl (ss_in z55 rfl) rfl rfl ?_
  iterate 2 refine wp_1 rfl ?_
  refine wp_get rfl (ss_in z55 rfl) rfl rfl ?_
  iterate 4 refine wp_1 rfl ?_
  refine wp_put rfl (ss_in z55 rfl) rfl rfl rfl ?_
  iterate 4 refine wp_1 rfl ?_
  refine wp_r rfl ?_
  refine wp_1 rfl ?_
  refine wp_lv (lv' := [(2, .int 2), (4, .int 0), (3, .ref 51), (1, .int 1), (0, .ref 0)]) rfl ?_
  iterate 5 refine wp_1 rfl ?_
  refine wp_get rfl (ss_out z0 rfl) rfl rfl ?_
  refine wp_1 rfl ?_
  refine wp_aald rfl (ss_out z2 rfl) rfl rfl ?_
  refine wp_get rfl (ss_out z42 rfl) rfl rfl ?_
  refine wp_1 rfl ?_
  refine wp_aald rfl (ss_out z43 rfl) rfl rfl ?_
  iterate 5 refine wp_1 rfl ?_
  refine wp_get rfl (ss_out z56 rfl) rfl rfl ?_
  refine wp_callV rfl rfl (ss_out z60 rfl) rfl rfl rfl ?_
  refine wp_1 rfl ?_
  refine wp_get rfl (ss_out z60 rfl) rfl rfl ?_
  refine wp_r rfl ?_
  iterate 2 refine wp_1 rfl ?_
  refine wp_get rfl (ss_out z56 rfl) rfl rfl ?_
  refine wp_callV rfl rfl (ss_out z60 rfl) rfl rfl rfl ?_
  iterate 2 refine wp_1 rfl ?_
  refine wp_get rfl (ss_out z60 rfl) rfl rfl ?_
  iterate 2 refine wp_1 rfl ?_
  refine wp_put rfl (ss_out z60 rfl) rfl rfl rfl ?_
  refine wp_1 rfl ?_
  refine wp_get rfl (ss_in z60 rfl) rfl rfl ?_
  iterate 2 refine wp_1 rfl ?_
  refine wp_get rfl (ss_in z60 rfl) rfl rfl ?_
  iterate 4 refine wp_1 rfl ?_
  refine wp_put rfl (ss_in z60 rfl) rfl rfl rfl ?_
  iterate 4 refine wp_1 rfl ?_
  refine wp_r rfl ?_
  refine wp_1 rfl ?_
  refine wp_lv (lv' := [(2, .int 3), (4, .int 0), (3, .ref 56), (1, .int 1), (0, .ref 0)]) rfl ?_
  iterate 5 refine wp_1 rfl ?_
  refine wp_get rfl (ss_out z0 rfl) rfl rfl ?_
  refine wp_1 rfl ?_
  refine wp_aald rfl (ss_out z2 rfl) rfl rfl ?_
  refine wp_get rfl (ss_out z42 rfl) rfl rfl ?_
  refine wp_1 rfl ?_
  refine wp_aald rfl (ss_out z43 rfl) rfl rfl ?_
  iterate 5 refine wp_1 rfl ?_
  refine wp_get rfl (ss_out z61 rfl) rfl rfl ?_
  refine wp_callV rfl rfl (ss_out z65 rfl) rfl rfl rfl ?_
  refine wp_1 rfl ?_
  refine wp_get rfl (ss_out z65 rfl) rfl rfl ?_
  refine wp_r rfl ?_
  iterate 2 refine wp_1 rfl ?_
  refine wp_get rfl (ss_out z61 rfl) rfl rfl ?_
  refine wp_callV rfl rfl (ss_out z65 rfl) rfl rfl rfl ?_
  iterate 2 refine wp_1 rfl ?_
  refine wp_get rfl (ss_out z65 rfl) rfl rfl ?_
  iterate 2 refine wp_1 rfl ?_
  refine wp_put rfl (ss_out z65 rfl) rfl rfl rfl ?_
  refine wp_1 rfl ?_
  refine wp_get rfl (ss_in z65 rfl) rfl rfl ?_
  iterate 2 refine wp_1 rfl ?_
  refine wp_get rfl (ss_in z65 rfl) rfl rfl ?_
  iterate 4 refine wp_1 rfl ?_
  refine wp_put rfl (ss_in z65 rfl) rfl rfl rfl ?_
  iterate 4 refine wp_1 rfl ?_
  refine wp_r rfl ?_
  refine wp_1 rfl ?_
  refine wp_lv (lv' := [(2, .int 4), (4, .int 0), (3, .ref 61), (1, .int 1), (0, .ref 0)]) rfl ?_
  iterate 5 refine wp_1 rfl ?_
  refine wp_lv (lv' := [(1, .int 2), (2, .int 4), (4, .int 0), (3, .ref 61), (0, .ref 0)]) rfl ?_
  iterate 10 refine wp_1 rfl ?_
  refine wp_get rfl (ss_out z0 rfl) rfl rfl ?_
  refine wp_1 rfl ?_
  refine wp_aald rfl (ss_out z2 rfl) rfl rfl ?_
  refine wp_get rfl (ss_out z66 rfl) rfl rfl ?_
  refine wp_1 rfl ?_
  refine wp_aald rfl (ss_out z67 rfl) rfl rfl ?_
  iterate 5 refine wp_1 rfl ?_
  refine wp_get rfl (ss_out z75 rfl) rfl rfl ?_
  refine wp_callV rfl rfl (ss_out z79 rfl) rfl rfl rfl ?_
  refine wp_1 rfl ?_
  refine wp_get rfl (ss_out z79 rfl) rfl rfl ?_
  refine wp_r rfl ?_
  iterate 2 refine wp_1 rfl ?_
  refine wp_get rfl (ss_out z75 rfl) rfl rfl ?_
  refine wp_callV rfl rfl (ss_out z79 rfl) rfl rfl rfl ?_
  iterate 2 refine wp_1 rfl ?_
  refine wp_get rfl (ss_out z79 rfl) rfl rfl ?_
  iterate 2 refine wp_1 rfl ?_
  refine wp_put rfl (ss_out z79 rfl) rfl rfl rfl ?_
  refine wp_1 rfl ?_
  refine wp_get rfl (ss_in z79 rfl) rfl rfl ?_
  iterate 2 refine wp_1 rfl ?_
  refine wp_get rfl (ss_in z79 rfl) rfl rfl ?_
  iterate 4 refine wp_1 rfl ?_
  refine wp_put rfl (ss_in z79 rfl) rfl rfl rfl ?_
  iterate 4 refine wp_1 rfl ?_
  refine wp_r rfl ?_
  refine wp_1 rfl ?_
  refine wp_lv (lv' := [(2, .int 2), (4, .int 0), (3, .ref 75), (1, .int 2), (0, .ref 0)]) rfl ?_
  iterate 5 refine wp_1 rfl ?_
  refine wp_get rfl (ss_out z0 rfl) rfl rfl ?_
  refine wp_1 rfl ?_
  refine wp_aald rfl (ss_out z2 rfl) rfl rfl ?_
  refine wp_get rfl (ss_out z66 rfl) rfl rfl ?_
  refine wp_1 rfl ?_
  refine wp_aald rfl (ss_out z67 rfl) rfl rfl ?_
  iterate 5 refine wp_1 rfl ?_
  refine wp_get rfl (ss_out z80 rfl) rfl rfl ?_
  refine wp_callV rfl rfl (ss_out z84 rfl) rfl rfl rfl ?_
  refine wp_1 rfl ?_
  refine wp_get rfl (ss_out z84 rfl) rfl rfl ?_
  refine wp_r rfl ?_
  iterate 2 refine wp_1 rfl ?_
  refine wp_get rfl (ss_out z80 rfl) rfl rfl ?_
  refine wp_callV rfl rfl (ss_out z84 rfl) rfl rfl rfl ?_
  iterate 2 refine wp_1 rfl ?_
  refine wp_get rfl (ss_out z84 rfl) rfl rfl ?_
  iterate 2 refine wp_1 rfl ?_
  refine wp_put rfl (ss_out z84 rfl) rfl rfl rfl ?_
  refine wp_1 rfl ?_
  refine wp_get rfl (ss_in z84 rfl) rfl rfl ?_
  iterate 2 refine wp_1 rfl ?_
  refine wp_get rfl (ss_in z84 rfl) rfl rfl ?_
  iterate 4 refine wp_1 rfl ?_
  refine wp_put rfl (ss_in z84 rfl) rfl rfl rfl ?_
  iterate 4 refine wp_1 rfl ?_
  refine wp_r rfl ?_
  refine wp_1 rfl ?_
  refine wp_lv (lv' := [(2, .int 3), (4, .int 0), (3, .ref 80), (1, .int 2), (0, .ref 0)]) rfl ?_
  iterate 5 refine wp_1 rfl ?_
  refine wp_get rfl (ss_out z0 rfl) rfl rfl ?_
  refine wp_1 rfl ?_
  refine wp_aald rfl (ss_out z2 rfl) rfl rfl ?_
  refine wp_get rfl (ss_out z66 rfl) rfl rfl ?_
  refine wp_1 rfl ?_
  refine wp_aald rfl (ss_out z67 rfl) rfl rfl ?_
  iterate 5 refine wp_1 rfl ?_
  refine wp_get rfl (ss_out z85 rfl) rfl rfl ?_
  refine wp_callV rfl rfl (ss_out z89 rfl) rfl rfl rfl ?_
  refine wp_1 rfl ?_
  refine wp_get rfl (ss_out z89 rfl) rfl rfl ?_
  refine wp_r rfl ?_
  iterate 2 refine wp_1 rfl ?_
  refine wp_get rfl (ss_out z85 rfl) rfl rfl ?_
  refine wp_callV rfl rfl (ss_out z89 rfl) rfl rfl rfl ?_
  iterate 2 refine wp_1 rfl ?_
  refine wp_get rfl (ss_out z89 rfl) rfl rfl ?_
  iterate 2 refine wp_1 rfl ?_
  refine wp_put rfl (ss_out z89 rfl) rfl rfl rfl ?_
  refine wp_1 rfl ?_
  refine wp_get rfl (ss_in z89 rfl) rfl rfl ?_
  iterate 2 refine wp_1 rfl ?_
  refine wp_get rfl (ss_in z89 rfl) rfl rfl ?_
  iterate 4 refine wp_1 rfl ?_
  refine wp_put rfl (ss_in z89 rfl) rfl rfl rfl ?_
  iterate 4 refine wp_1 rfl ?_
  refine wp_r rfl ?_
  refine wp_1 rfl ?_
  refine wp_lv (lv' := [(2, .int 4), (4, .int 0), (3, .ref 85), (1, .int 2), (0, .ref 0)]) rfl ?_
  iterate 5 refine wp_1 rfl ?_
  refine wp_lv (lv' := [(1, .int 3), (2, .int 4), (4, .int 0), (3, .ref 85), (0, .ref 0)]) rfl ?_
  iterate 10 refine wp_1 rfl ?_
  refine wp_get rfl (ss_out z0 rfl) rfl rfl ?_
  refine wp_1 rfl ?_
  refine wp_aald rfl (ss_out z2 rfl) rfl rfl ?_
  refine wp_get rfl (ss_out z90 rfl) rfl rfl ?_
  refine wp_1 rfl ?_
  refine wp_aald rfl (ss_out z91 rfl) rfl rfl ?_
  iterate 5 refine wp_1 rfl ?_
  refine wp_get rfl (ss_out z99 rfl) rfl rfl ?_
  refine wp_callV rfl rfl (ss_out z103 rfl) rfl rfl rfl ?_
  refine wp_1 rfl ?_
  refine wp_get rfl (ss_out z103 rfl) rfl rfl ?_
  refine wp_r rfl ?_
  iterate 2 refine wp_1 rfl ?_
  refine wp_get rfl (ss_out z99 rfl) rfl rfl ?_
  refine wp_callV rfl rfl (ss_out z103 rfl) rfl rfl rfl ?_
  iterate 2 refine wp_1 rfl ?_
  refine wp_get rfl (ss_out z103 rfl) rfl rfl ?_
  iterate 2 refine wp_1 rfl ?_
  refine wp_put rfl (ss_out z103 rfl) rfl rfl rfl ?_
  refine wp_1 rfl ?_
  refine wp_get rfl (ss_in z103 rfl) rfl rfl ?_
  iterate 2 refine wp_1 rfl ?_
  refine wp_get rfl (ss_in z103 rfl) rfl rfl ?_
  iterate 4 refine wp_1 rfl ?_
  refine wp_put rfl (ss_in z103 rfl) rfl rfl rfl ?_
  iterate 4 refine wp_1 rfl ?_
  refine wp_r rfl ?_
  refine wp_1 rfl ?_
  refine wp_lv (lv' := [(2, .int 2), (4, .int 0), (3, .ref 99), (1, .int 3), (0, .ref 0)]) rfl ?_
  iterate 5 refine wp_1 rfl ?_
  refine wp_get rfl (ss_out z0 rfl) rfl rfl ?_
  refine wp_1 rfl ?_
  refine wp_aald rfl (ss_out z2 rfl) rfl rfl ?_
  refine wp_get rfl (ss_out z90 rfl) rfl rfl ?_
  refine wp_1 rfl ?_
  refine wp_aald rfl (ss_out z91 rfl) rfl rfl ?_
  iterate 5 refine wp_1 rfl ?_
  refine wp_get rfl (ss_out z104 rfl) rfl rfl ?_
  refine wp_callV rfl rfl (ss_out z108 rfl) rfl rfl rfl ?_
  refine wp_1 rfl ?_
  refine wp_get rfl (ss_out z108 rfl) rfl rfl ?_
  refine wp_r rfl ?_
  iterate 2 refine wp_1 rfl ?_
  refine wp_get rfl (ss_out z104 rfl) rfl rfl ?_
  refine wp_callV rfl rfl (ss_out z108 rfl) rfl rfl rfl ?_
  iterate 2 refine wp_1 rfl ?_
  refine wp_get rfl (ss_out z108 rfl) rfl rfl ?_
  iterate 2 refine wp_1 rfl ?_
  refine wp_put rfl (ss_out z108 rfl) rfl rfl rfl ?_
  refine wp_1 rfl ?_
  refine wp_get rfl (ss_in z108 rfl) rfl rfl ?_
  iterate 2 refine wp_1 rfl ?_
  refine wp_get rfl (ss_in z108 rfl) rfl rfl ?_
  iterate 4 refine wp_1 rfl ?_
  refine wp_put rfl (ss_in z108 rfl) rfl rfl rfl ?_
  iterate 4 refine wp_1 rfl ?_
  refine wp_r rfl ?_
  refine wp_1 rfl ?_
  refine wp_lv (lv' := [(2, .int 3), (4, .int 0), (3, .ref 104), (1, .int 3), (0, .ref 0)]) rfl ?_
  iterate 5 refine wp_1 rfl ?_
  refine wp_get rfl (ss_out z0 rfl) rfl rfl ?_
  refine wp_1 rfl ?_
  refine wp_aald rfl (ss_out z2 rfl) rfl rfl ?_
  refine wp_get rfl (ss_out z90 rfl) rfl rfl ?_
  refine wp_1 rfl ?_
  refine wp_aald rfl (ss_out z91 rfl) rfl rfl ?_
  iterate 5 refine wp_1 rfl ?_
  refine wp_get rfl (ss_out z109 rfl) rfl rfl ?_
  refine wp_callV rfl rfl (ss_out z113 rfl) rfl rfl rfl ?_
  refine wp_1 rfl ?_
  refine wp_get rfl (ss_out z113 rfl) rfl rfl ?_
  refine wp_r rfl ?_
  iterate 2 refine wp_1 rfl ?_
  refine wp_get rfl (ss_out z109 rfl) rfl rfl ?_
  refine wp_callV rfl rfl (ss_out z113 rfl) rfl rfl rfl ?_
  iterate 2 refine wp_1 rfl ?_
  refine wp_get rfl (ss_out z113 rfl) rfl rfl ?_
  iterate 2 refine wp_1 rfl ?_
  refine wp_put rfl (ss_out z113 rfl) rfl rfl rfl ?_
  refine wp_1 rfl ?_
  refine wp_get rfl (ss_in z113 rfl) rfl rfl ?_
  iterate 2 refine wp_1 rfl ?_
  refine wp_get rfl (ss_in z113 rfl) rfl rfl ?_
  iterate 4 refine wp_1 rfl ?_
  refine wp_put rfl (ss_in z113 rfl) rfl rfl rfl ?_
  iterate 4 refine wp_1 rfl ?_
  refine wp_r rfl ?_
  refine wp_1 rfl ?_
  refine wp_lv (lv' := [(2, .int 4), (4, .int 0), (3, .ref 109), (1, .int 3), (0, .ref 0)]) rfl ?_
  iterate 5 refine wp_1 rfl ?_
  refine wp_lv (lv' := [(1, .int 4), (2, .int 4), (4, .int 0), (3, .ref 109), (0, .ref 0)]) rfl ?_
  iterate 4 refine wp_1 rfl ?_
  refine wp_r rfl ?_
  refine wp_1 rfl ?_
  refine wp_callV rfl rfl (ss_out z0 rfl) rfl rfl rfl ?_
  iterate 4 refine wp_1 rfl ?_
  refine wp_get rfl (ss_out z0 rfl) rfl rfl ?_
  refine wp_callV rfl rfl (ss_out z9 rfl) rfl rfl rfl ?_
  refine wp_1 rfl ?_
  refine wp_get rfl (ss_out z9 rfl) rfl rfl ?_
  refine wp_r rfl ?_
  iterate 2 refine wp_1 rfl ?_
  refine wp_get rfl (ss_out z0 rfl) rfl rfl ?_
  refine wp_callV rfl rfl (ss_out z9 rfl) rfl rfl rfl ?_
  iterate 2 refine wp_1 rfl ?_
  refine wp_get rfl (ss_out z9 rfl) rfl rfl ?_
  iterate 2 refine wp_1 rfl ?_
  refine wp_put rfl (ss_out z9 rfl) rfl rfl rfl ?_
  refine wp_1 rfl ?_
  refine wp_get rfl (ss_in z9 rfl) rfl rfl ?_
  iterate 2 refine wp_1 rfl ?_
  refine wp_get rfl (ss_in z9 rfl) rfl rfl ?_
  iterate 4 refine wp_1 rfl ?_
  refine wp_put rfl (ss_in z9 rfl) rfl rfl rfl ?_
  iterate 4 refine wp_1 rfl ?_
  refine wp_r rfl ?_
  refine wp_r rfl ?_
  iterate 2 refine wp_1 rfl ?_
  refine wp_get rfl (ss_out z0 rfl) rfl rfl ?_
  iterate 2 refine wp_1 rfl ?_
  refine wp_put rfl (ss_out z0 rfl) rfl rfl rfl ?_
  refine wp_1 rfl ?_
  refine wp_callV rfl rfl (ss_in z0 rfl) rfl rfl rfl ?_
  iterate 4 refine wp_1 rfl ?_
  refine wp_get rfl (ss_in z0 rfl) rfl rfl ?_
  refine wp_callV rfl rfl (ss_out z5 rfl) rfl rfl rfl ?_
  refine wp_1 rfl ?_
  refine wp_get rfl (ss_out z5 rfl) rfl rfl ?_
  refine wp_r rfl ?_
  refine wp_1 rfl ?_
  refine wp_r rfl ?_
  iterate 7 refine wp_1 rfl ?_
  refine wp_get rfl (ss_in z0 rfl) rfl rfl ?_
  refine wp_1 rfl ?_
  refine wp_aald rfl (ss_out z2 rfl) rfl rfl ?_
  refine wp_callV rfl rfl (ss_in z0 rfl) rfl rfl rfl ?_
  refine wp_1 rfl ?_
  refine wp_get rfl (ss_out z18 rfl) rfl rfl ?_
  iterate 3 refine wp_1 rfl ?_
  refine wp_get rfl (ss_out z18 rfl) rfl rfl ?_
  iterate 2 refine wp_1 rfl ?_
  refine wp_r rfl ?_
  refine wp_1 rfl ?_
  refine wp_lv (lv' := [(3, .int 1), (2, .int i), (0, .ref 0), (1, .int n)]) rfl ?_
  iterate 6 refine wp_1 rfl ?_
  refine wp_get rfl (ss_in z0 rfl) rfl rfl ?_
  refine wp_1 rfl ?_
  refine wp_aald rfl (ss_out z2 rfl) rfl rfl ?_
  refine wp_callV rfl rfl (ss_in z0 rfl) rfl rfl rfl ?_
  refine wp_1 rfl ?_
  refine wp_get rfl (ss_out z42 rfl) rfl rfl ?_
  iterate 3 refine wp_1 rfl ?_
  refine wp_get rfl (ss_out z42 rfl) rfl rfl ?_
  iterate 2 refine wp_1 rfl ?_
  refine wp_r rfl ?_
  refine wp_1 rfl ?_
  refine wp_lv (lv' := [(3, .int 2), (2, .int i), (0, .ref 0), (1, .int n)]) rfl ?_
  iterate 6 refine wp_1 rfl ?_
  refine wp_get rfl (ss_in z0 rfl) rfl rfl ?_
  refine wp_1 rfl ?_
  refine wp_aald rfl (ss_out z2 rfl) rfl rfl ?_
  refine wp_callV rfl rfl (ss_in z0 rfl) rfl rfl rfl ?_
  refine wp_1 rfl ?_
  refine wp_get rfl (ss_out z66 rfl) rfl rfl ?_
  iterate 3 refine wp_1 rfl ?_
  refine wp_get rfl (ss_out z66 rfl) rfl rfl ?_
  iterate 2 refine wp_1 rfl ?_
  refine wp_r rfl ?_
  refine wp_1 rfl ?_
  refine wp_lv (lv' := [(3, .int 3), (2, .int i), (0, .ref 0), (1, .int n)]) rfl ?_
  iterate 6 refine wp_1 rfl ?_
  refine wp_get rfl (ss_in z0 rfl) rfl rfl ?_
  refine wp_1 rfl ?_
  refine wp_aald rfl (ss_out z2 rfl) rfl rfl ?_
  refine wp_callV rfl rfl (ss_in z0 rfl) rfl rfl rfl ?_
  refine wp_1 rfl ?_
  refine wp_get rfl (ss_out z90 rfl) rfl rfl ?_
  iterate 3 refine wp_1 rfl ?_
  refine wp_get rfl (ss_out z90 rfl) rfl rfl ?_
  iterate 2 refine wp_1 rfl ?_
  refine wp_r rfl ?_
  refine wp_1 rfl ?_
  refine wp_lv (lv' := [(3, .int 4), (2, .int i), (0, .ref 0), (1, .int n)]) rfl ?_
  iterate 5 refine wp_1 rfl ?_
  refine wp_callV rfl rfl (ss_in z0 rfl) rfl rfl rfl ?_
  iterate 6 refine wp_1 rfl ?_
  refine wp_callV rfl rfl (ss_in z0 rfl) rfl rfl rfl ?_
  iterate 4 refine wp_1 rfl ?_
  refine wp_get rfl (ss_in z0 rfl) rfl rfl ?_
  refine wp_callV rfl rfl (ss_in z9 rfl) rfl rfl rfl ?_
  refine wp_1 rfl ?_
  refine wp_get rfl (ss_in z9 rfl) rfl rfl ?_
  refine wp_r rfl ?_
  iterate 2 refine wp_1 rfl ?_
  refine wp_get rfl (ss_in z0 rfl) rfl rfl ?_
  refine wp_callV rfl rfl (ss_in z9 rfl) rfl rfl rfl ?_
  iterate 2 refine wp_1 rfl ?_
  refine wp_get rfl (ss_in z9 rfl) rfl rfl ?_
  iterate 2 refine wp_1 rfl ?_
  refine wp_put rfl (ss_in z9 rfl) rfl rfl rfl ?_
  refine wp_1 rfl ?_
  refine wp_get rfl (ss_in z9 rfl) rfl rfl ?_
  iterate 2 refine wp_1 rfl ?_
  refine wp_get rfl (ss_in z9 rfl) rfl rfl ?_
  iterate 4 refine wp_1 rfl ?_
  refine wp_put rfl (ss_in z9 rfl) rfl rfl rfl ?_
  iterate 4 refine wp_1 rfl ?_
  refine wp_r rfl ?_
  refine wp_r rfl ?_
  refine wp_1 rfl ?_
  refine wp_callV rfl rfl (ss_in z0 rfl) rfl rfl rfl ?_
  refine wp_1 rfl ?_
  refine wp_get rfl (ss_in z0 rfl) rfl rfl ?_
  refine wp_callV rfl rfl (ss_out z8 rfl) rfl rfl rfl ?_
  refine wp_1 rfl ?_
  refine wp_get rfl (ss_out z8 rfl) rfl rfl ?_
  iterate 3 refine wp_1 rfl ?_
  refine wp_r rfl ?_
  iterate 5 refine wp_1 rfl ?_
  refine wp_get rfl (ss_in z0 rfl) rfl rfl ?_
  refine wp_callV rfl rfl (ss_out z5 rfl) rfl rfl rfl ?_
  refine wp_1 rfl ?_
  refine wp_get rfl (ss_out z5 rfl) rfl rfl ?_
  refine wp_r rfl ?_
  iterate 2 refine wp_1 rfl ?_
  refine wp_r rfl ?_
  refine wp_1 rfl ?_
  refine wp_r rfl ?_
  refine wp_1 rfl ?_
  refine wp_lv (lv' := [(2, .int (i + 1)), (3, .int 4), (0, .ref 0), (1, .int n)]) rfl ?_
  refine wp_1 rfl ?_
  refine hK _ _ ?_
  exact (x_inv_c (ss_in z0 rfl) <| x_inv_c (ss_out z2 rfl) <| x_inv_c (ss_out z5 rfl) <| x_inv_c (ss_out z8 rfl) <| x_inv_c (ss_in z9 rfl) <| x_inv_c (ss_out z11 rfl) <| x_inv_c (ss_in z12 rfl) <| x_inv_c (ss_out z18 rfl) <| x_inv_c (ss_out z19 rfl) <| x_inv_c (ss_out z27 rfl) <| x_inv_c (ss_in z31 rfl) <| x_inv_c (ss_out z32 rfl) <| x_inv_c (ss_in z36 rfl) <| x_inv_c (ss_out z37 rfl) <| x_inv_c (ss_in z41 rfl) <| x_inv_c (ss_out z42 rfl) <| x_inv_c (ss_out z43 rfl) <| x_inv_c (ss_out z51 rfl) <| x_inv_c (ss_in z55 rfl) <| x_inv_c (ss_out z56 rfl) <| x_inv_c (ss_in z60 rfl) <| x_inv_c (ss_out z61 rfl) <| x_inv_c (ss_in z65 rfl) <| x_inv_c (ss_out z66 rfl) <| x_inv_c (ss_out z67 rfl) <| x_inv_c (ss_out z75 rfl) <| x_inv_c (ss_in z79 rfl) <| x_inv_c (ss_out z80 rfl) <| x_inv_c (ss_in z84 rfl) <| x_inv_c (ss_out z85 rfl) <| x_inv_c (ss_in z89 rfl) <| x_inv_c (ss_out z90 rfl) <| x_inv_c (ss_out z91 rfl) <| x_inv_c (ss_out z99 rfl) <| x_inv_c (ss_in z103 rfl) <| x_inv_c (ss_out z104 rfl) <| x_inv_c (ss_in z108 rfl) <| x_inv_c (ss_out z109 rfl) <| x_inv_c (ss_in z113 rfl) <| x_inv_c (ss_out z114 rfl) <| x_inv_c (ss_out z115 rfl) <| x_inv_c (ss_out z136 rfl) <| x_inv_c (ss_out z139 rfl) <| x_inv_c (ss_out z140 rfl) <| x_inv_c (ss_out z144 rfl) <| x_inv_c (ss_out z148 rfl) <| x_inv_c (ss_out z152 rfl) <| x_inv_c (ss_out z155 rfl) <| x_inv_c (ss_out z156 rfl) <| x_inv_c (ss_out z160 rfl) <| x_inv_c (ss_out z164 rfl) <| x_inv_c (ss_out z168 rfl) <| x_inv_c (ss_out z171 rfl) <| x_inv_c (ss_out z172 rfl) <| x_inv_c (ss_out z176 rfl) <| x_inv_c (ss_out z180 rfl) <| x_inv_c (ss_out z184 rfl) <| x_inv_c (ss_out z187 rfl) <| x_inv_c (ss_out z188 rfl) <| x_inv_c (ss_out z192 rfl) <| x_inv_c (ss_out z196 rfl) <| x_inv_c (ss_out z200 rfl) <| x_inv_n)
set_option maxHeartbeats 4000000 in
theorem tk_c1 {h : xH} {c a b k i n y : Int32} {w : List (Nat × Value)} {Z : Option Value → xH → Nat → Nat → Prop} (hz : x_inv h (x_LT c a b k w)) (b0 : ¬ n ≤ i) (hK : ∀ (h' : xH) (y' : Int32), x_inv h' (x_LT (c + 1) (a + 1 + 1) (b + 1) k w) → x_WP 11 292 21 [(2, .int (i + 1)), (3, .int y'), (0, .ref 0), (1, .int n)] [] h' 0 0 Z) : x_WP 11 292 21 [(2, .int i), (3, .int y), (0, .ref 0), (1, .int n)] [] h 0 0 Z := by
  obtain ⟨z0, z2, z5, z8, z9, z11, z12, z18, z19, z27, z31, z32, z36, z37, z41, z42, z43, z51, z55, z56, z60, z61, z65, z66, z67, z75, z79, z80, z84, z85, z89, z90, z91, z99, z103, z104, z108, z109, z113, z114, z115, z136, z139, z140, z144, z148, z152, z155, z156, z160, z164, z168, z171, z172, z176, z180, z184, z187, z188, z192, z196, z200, -⟩ := hz
  refine wp_ov ?_
  iterate 3 refine wp_1 rfl ?_
  refine wp_pc (if_neg b0) ?_
  refine wp_1 rfl ?_
  refine wp_get rfl (ss_out z0 rfl) rfl rfl ?_
  refine wp_1 rfl ?_
  refine wp_get rfl (ss_out z0 rfl) rfl rfl ?_
  refine wp_get rfl (ss_out z11 rfl) rfl rfl ?_
  refine wp_callV rfl rfl (ss_out z12 rfl) rfl rfl rfl ?_
  refine wp_1 rfl ?_
  refine wp_get rfl (ss_out z12 rfl) rfl rfl ?_
  refine wp_r rfl ?_
  refine wp_callV rfl rfl (ss_out z11 rfl) rfl rfl rfl ?_
  iterate 6 refine wp_1 rfl ?_
  refine wp_get rfl (ss_out z11 rfl) rfl rfl ?_
  refine wp_callV rfl rfl (ss_out z12 rfl) rfl rfl rfl ?_
  iterate 2 refine wp_1 rfl ?_
  refine wp_get rfl (ss_out z12 rfl) rfl rfl ?_
  iterate 2 refine wp_1 rfl ?_
  refine wp_put rfl (ss_out z12 rfl) rfl rfl rfl ?_
  refine wp_1 rfl ?_
  refine wp_get rfl (ss_in z12 rfl) rfl rfl ?_
  iterate 2 refine wp_1 rfl ?_
  refine wp_get rfl (ss_in z12 rfl) rfl rfl ?_
  iterate 4 refine wp_1 rfl ?_
  refine wp_put rfl (ss_in z12 rfl) rfl rfl rfl ?_
  iterate 4 refine wp_1 rfl ?_
  refine wp_r rfl ?_
  refine wp_r rfl ?_
  refine wp_1 rfl ?_
  refine wp_callV rfl rfl (ss_out z0 rfl) rfl rfl rfl ?_
  iterate 11 refine wp_1 rfl ?_
  refine wp_get rfl (ss_out z0 rfl) rfl rfl ?_
  refine wp_1 rfl ?_
  refine wp_aald rfl (ss_out z2 rfl) rfl rfl ?_
  refine wp_get rfl (ss_out z18 rfl) rfl rfl ?_
  refine wp_1 rfl ?_
  refine wp_aald rfl (ss_out z19 rfl) rfl rfl ?_
  iterate 5 refine wp_1 rfl ?_
  refine wp_get rfl (ss_out z27 rfl) rfl rfl ?_
  refine wp_callV rfl rfl (ss_out z31 rfl) rfl rfl rfl ?_
  refine wp_1 rfl ?_
  refine wp_get rfl (ss_out z31 rfl) rfl rfl ?_
  refine wp_r rfl ?_
  iterate 2 refine wp_1 rfl ?_
  refine wp_get rfl (ss_out z27 rfl) rfl rfl ?_
  refine wp_callV rfl rfl (ss_out z31 rfl) rfl rfl rfl ?_
  iterate 2 refine wp_1 rfl ?_
  refine wp_get rfl (ss_out z31 rfl) rfl rfl ?_
  iterate 2 refine wp_1 rfl ?_
  refine wp_put rfl (ss_out z31 rfl) rfl rfl rfl ?_
  refine wp_1 rfl ?_
  refine wp_get rfl (ss_in z31 rfl) rfl rfl ?_
  iterate 2 refine wp_1 rfl ?_
  refine wp_get rfl (ss_in z31 rfl) rfl rfl ?_
  iterate 4 refine wp_1 rfl ?_
  refine wp_put rfl (ss_in z31 rfl) rfl rfl rfl ?_
  iterate 4 refine wp_1 rfl ?_
  refine wp_r rfl ?_
  refine wp_1 rfl ?_
  refine wp_lv (lv' := [(2, .int 2), (4, .int 0), (3, .ref 27), (1, .int 0), (0, .ref 0)]) rfl ?_
  iterate 5 refine wp_1 rfl ?_
  refine wp_get rfl (ss_out z0 rfl) rfl rfl ?_
  refine wp_1 rfl ?_
  refine wp_aald rfl (ss_out z2 rfl) rfl rfl ?_
  refine wp_get rfl (ss_out z18 rfl) rfl rfl ?_
  refine wp_1 rfl ?_
  refine wp_aald rfl (ss_out z19 rfl) rfl rfl ?_
  iterate 5 refine wp_1 rfl ?_
  refine wp_get rfl (ss_out z32 rfl) rfl rfl ?_
  refine wp_callV rfl rfl (ss_out z36 rfl) rfl rfl rfl ?_
  refine wp_1 rfl ?_
  refine wp_get rfl (ss_out z36 rfl) rfl rfl ?_
  refine wp_r rfl ?_
  iterate 2 refine wp_1 rfl ?_
  refine wp_get rfl (ss_out z32 rfl) rfl rfl ?_
  refine wp_callV rfl rfl (ss_out z36 rfl) rfl rfl rfl ?_
  iterate 2 refine wp_1 rfl ?_
  refine wp_get rfl (ss_out z36 rfl) rfl rfl ?_
  iterate 2 refine wp_1 rfl ?_
  refine wp_put rfl (ss_out z36 rfl) rfl rfl rfl ?_
  refine wp_1 rfl ?_
  refine wp_get rfl (ss_in z36 rfl) rfl rfl ?_
  iterate 2 refine wp_1 rfl ?_
  refine wp_get rfl (ss_in z36 rfl) rfl rfl ?_
  iterate 4 refine wp_1 rfl ?_
  refine wp_put rfl (ss_in z36 rfl) rfl rfl rfl ?_
  iterate 4 refine wp_1 rfl ?_
  refine wp_r rfl ?_
  refine wp_1 rfl ?_
  refine wp_lv (lv' := [(2, .int 3), (4, .int 0), (3, .ref 32), (1, .int 0), (0, .ref 0)]) rfl ?_
  iterate 5 refine wp_1 rfl ?_
  refine wp_get rfl (ss_out z0 rfl) rfl rfl ?_
  refine wp_1 rfl ?_
  refine wp_aald rfl (ss_out z2 rfl) rfl rfl ?_
  refine wp_get rfl (ss_out z18 rfl) rfl rfl ?_
  refine wp_1 rfl ?_
  refine wp_aald rfl (ss_out z19 rfl) rfl rfl ?_
  iterate 5 refine wp_1 rfl ?_
  refine wp_get rfl (ss_out z37 rfl) rfl rfl ?_
  refine wp_callV rfl rfl (ss_out z41 rfl) rfl rfl rfl ?_
  refine wp_1 rfl ?_
  refine wp_get rfl (ss_out z41 rfl) rfl rfl ?_
  refine wp_r rfl ?_
  iterate 2 refine wp_1 rfl ?_
  refine wp_get rfl (ss_out z37 rfl) rfl rfl ?_
  refine wp_callV rfl rfl (ss_out z41 rfl) rfl rfl rfl ?_
  iterate 2 refine wp_1 rfl ?_
  refine wp_get rfl (ss_out z41 rfl) rfl rfl ?_
  iterate 2 refine wp_1 rfl ?_
  refine wp_put rfl (ss_out z41 rfl) rfl rfl rfl ?_
  refine wp_1 rfl ?_
  refine wp_get rfl (ss_in z41 rfl) rfl rfl ?_
  iterate 2 refine wp_1 rfl ?_
  refine wp_get rfl (ss_in z41 rfl) rfl rfl ?_
  iterate 4 refine wp_1 rfl ?_
  refine wp_put rfl (ss_in z41 rfl) rfl rfl rfl ?_
  iterate 4 refine wp_1 rfl ?_
  refine wp_r rfl ?_
  refine wp_1 rfl ?_
  refine wp_lv (lv' := [(2, .int 4), (4, .int 0), (3, .ref 37), (1, .int 0), (0, .ref 0)]) rfl ?_
  iterate 5 refine wp_1 rfl ?_
  refine wp_lv (lv' := [(1, .int 1), (2, .int 4), (4, .int 0), (3, .ref 37), (0, .ref 0)]) rfl ?_
  iterate 10 refine wp_1 rfl ?_
  refine wp_get rfl (ss_out z0 rfl) rfl rfl ?_
  refine wp_1 rfl ?_
  refine wp_aald rfl (ss_out z2 rfl) rfl rfl ?_
  refine wp_get rfl (ss_out z42 rfl) rfl rfl ?_
  refine wp_1 rfl ?_
  refine wp_aald rfl (ss_out z43 rfl) rfl rfl ?_
  iterate 5 refine wp_1 rfl ?_
  refine wp_get rfl (ss_out z51 rfl) rfl rfl ?_
  refine wp_callV rfl rfl (ss_out z55 rfl) rfl rfl rfl ?_
  refine wp_1 rfl ?_
  refine wp_get rfl (ss_out z55 rfl) rfl rfl ?_
  refine wp_r rfl ?_
  iterate 2 refine wp_1 rfl ?_
  refine wp_get rfl (ss_out z51 rfl) rfl rfl ?_
  refine wp_callV rfl rfl (ss_out z55 rfl) rfl rfl rfl ?_
  iterate 2 refine wp_1 rfl ?_
  refine wp_get rfl (ss_out z55 rfl) rfl rfl ?_
  iterate 2 refine wp_1 rfl ?_
  refine wp_put rfl (ss_out z55 rfl) rfl rfl rfl ?_
  refine wp_1 rfl ?_
  refine wp_get rfl (ss_in z55 rfl) rfl rfl ?_
  iterate 2 refine wp_1 rfl ?_
  refine wp_get rfl (ss_in z55 rfl) rfl rfl ?_
  iterate 4 refine wp_1 rfl ?_
  refine wp_put rfl (ss_in z55 rfl) rfl rfl rfl ?_
  iterate 4 refine wp_1 rfl ?_
  refine wp_r rfl ?_
  refine wp_1 rfl ?_
  refine wp_lv (lv' := [(2, .int 2), (4, .int 0), (3, .ref 51), (1, .int 1), (0, .ref 0)]) rfl ?_
  iterate 5 refine wp_1 rfl ?_
  refine wp_get rfl (ss_out z0 rfl) rfl rfl ?_
  refine wp_1 rfl ?_
  refine wp_aald rfl (ss_out z2 rfl) rfl rfl ?_
  refine wp_get rfl (ss_out z42 rfl) rfl rfl ?_
  refine wp_1 rfl ?_
  refine wp_aald rfl (ss_out z43 rfl) rfl rfl ?_
  iterate 5 refine wp_1 rfl ?_
  refine wp_get rfl (ss_out z56 rfl) rfl rfl ?_
  refine wp_callV rfl rfl (ss_out z60 rfl) rfl rfl rfl ?_
  refine wp_1 rfl ?_
  refine wp_get rfl (ss_out z60 rfl) rfl rfl ?_
  refine wp_r rfl ?_
  iterate 2 refine wp_1 rfl ?_
  refine wp_get rfl (ss_out z56 rfl) rfl rfl ?_
  refine wp_callV rfl rfl (ss_out z60 rfl) rfl rfl rfl ?_
  iterate 2 refine wp_1 rfl ?_
  refine wp_get rfl (ss_out z60 rfl) rfl rfl ?_
  iterate 2 refine wp_1 rfl ?_
  refine wp_put rfl (ss_out z60 rfl) rfl rfl rfl ?_
  refine wp_1 rfl ?_
  refine wp_get rfl (ss_in z60 rfl) rfl rfl ?_
  iterate 2 refine wp_1 rfl ?_
  refine wp_get rfl (ss_in z60 rfl) rfl rfl ?_
  iterate 4 refine wp_1 rfl ?_
  refine wp_put rfl (ss_in z60 rfl) rfl rfl rfl ?_
  iterate 4 refine wp_1 rfl ?_
  refine wp_r rfl ?_
  refine wp_1 rfl ?_
  refine wp_lv (lv' := [(2, .int 3), (4, .int 0), (3, .ref 56), (1, .int 1), (0, .ref 0)]) rfl ?_
  iterate 5 refine wp_1 rfl ?_
  refine wp_get rfl (ss_out z0 rfl) rfl rfl ?_
  refine wp_1 rfl ?_
  refine wp_aald rfl (ss_out z2 rfl) rfl rfl ?_
  refine wp_get rfl (ss_out z42 rfl) rfl rfl ?_
  refine wp_1 rfl ?_
  refine wp_aald rfl (ss_out z43 rfl) rfl rfl ?_
  iterate 5 refine wp_1 rfl ?_
  refine wp_get rfl (ss_out z61 rfl) rfl rfl ?_
  refine wp_callV rfl rfl (ss_out z65 rfl) rfl rfl rfl ?_
  refine wp_1 rfl ?_
  refine wp_get rfl (ss_out z65 rfl) rfl rfl ?_
  refine wp_r rfl ?_
  iterate 2 refine wp_1 rfl ?_
  refine wp_get rfl (ss_out z61 rfl) rfl rfl ?_
  refine wp_callV rfl rfl (ss_out z65 rfl) rfl rfl rfl ?_
  iterate 2 refine wp_1 rfl ?_
  refine wp_get rfl (ss_out z65 rfl) rfl rfl ?_
  iterate 2 refine wp_1 rfl ?_
  refine wp_put rfl (ss_out z65 rfl) rfl rfl rfl ?_
  refine wp_1 rfl ?_
  refine wp_get rfl (ss_in z65 rfl) rfl rfl ?_
  iterate 2 refine wp_1 rfl ?_
  refine wp_get rfl (ss_in z65 rfl) rfl rfl ?_
  iterate 4 refine wp_1 rfl ?_
  refine wp_put rfl (ss_in z65 rfl) rfl rfl rfl ?_
  iterate 4 refine wp_1 rfl ?_
  refine wp_r rfl ?_
  refine wp_1 rfl ?_
  refine wp_lv (lv' := [(2, .int 4), (4, .int 0), (3, .ref 61), (1, .int 1), (0, .ref 0)]) rfl ?_
  iterate 5 refine wp_1 rfl ?_
  refine wp_lv (lv' := [(1, .int 2), (2, .int 4), (4, .int 0), (3, .ref 61), (0, .ref 0)]) rfl ?_
  iterate 10 refine wp_1 rfl ?_
  refine wp_get rfl (ss_out z0 rfl) rfl rfl ?_
  refine wp_1 rfl ?_
  refine wp_aald rfl (ss_out z2 rfl) rfl rfl ?_
  refine wp_get rfl (ss_out z66 rfl) rfl rfl ?_
  refine wp_1 rfl ?_
  refine wp_aald rfl (ss_out z67 rfl) rfl rfl ?_
  iterate 5 refine wp_1 rfl ?_
  refine wp_get rfl (ss_out z75 rfl) rfl rfl ?_
  refine wp_callV rfl rfl (ss_out z79 rfl) rfl rfl rfl ?_
  refine wp_1 rfl ?_
  refine wp_get rfl (ss_out z79 rfl) rfl rfl ?_
  refine wp_r rfl ?_
  iterate 2 refine wp_1 rfl ?_
  refine wp_get rfl (ss_out z75 rfl) rfl rfl ?_
  refine wp_callV rfl rfl (ss_out z79 rfl) rfl rfl rfl ?_
  iterate 2 refine wp_1 rfl ?_
  refine wp_get rfl (ss_out z79 rfl) rfl rfl ?_
  iterate 2 refine wp_1 rfl ?_
  refine wp_put rfl (ss_out z79 rfl) rfl rfl rfl ?_
  refine wp_1 rfl ?_
  refine wp_get rfl (ss_in z79 rfl) rfl rfl ?_
  iterate 2 refine wp_1 rfl ?_
  refine wp_get rfl (ss_in z79 rfl) rfl rfl ?_
  iterate 4 refine wp_1 rfl ?_
  refine wp_put rfl (ss_in z79 rfl) rfl rfl rfl ?_
  iterate 4 refine wp_1 rfl ?_
  refine wp_r rfl ?_
  refine wp_1 rfl ?_
  refine wp_lv (lv' := [(2, .int 2), (4, .int 0), (3, .ref 75), (1, .int 2), (0, .ref 0)]) rfl ?_
  iterate 5 refine wp_1 rfl ?_
  refine wp_get rfl (ss_out z0 rfl) rfl rfl ?_
  refine wp_1 rfl ?_
  refine wp_aald rfl (ss_out z2 rfl) rfl rfl ?_
  refine wp_get rfl (ss_out z66 rfl) rfl rfl ?_
  refine wp_1 rfl ?_
  refine wp_aald rfl (ss_out z67 rfl) rfl rfl ?_
  iterate 5 refine wp_1 rfl ?_
  refine wp_get rfl (ss_out z80 rfl) rfl rfl ?_
  refine wp_callV rfl rfl (ss_out z84 rfl) rfl rfl rfl ?_
  refine wp_1 rfl ?_
  refine wp_get rfl (ss_out z84 rfl) rfl rfl ?_
  refine wp_r rfl ?_
  iterate 2 refine wp_1 rfl ?_
  refine wp_get rfl (ss_out z80 rfl) rfl rfl ?_
  refine wp_callV rfl rfl (ss_out z84 rfl) rfl rfl rfl ?_
  iterate 2 refine wp_1 rfl ?_
  refine wp_get rfl (ss_out z84 rfl) rfl rfl ?_
  iterate 2 refine wp_1 rfl ?_
  refine wp_put rfl (ss_out z84 rfl) rfl rfl rfl ?_
  refine wp_1 rfl ?_
  refine wp_get rfl (ss_in z84 rfl) rfl rfl ?_
  iterate 2 refine wp_1 rfl ?_
  refine wp_get rfl (ss_in z84 rfl) rfl rfl ?_
  iterate 4 refine wp_1 rfl ?_
  refine wp_put rfl (ss_in z84 rfl) rfl rfl rfl ?_
  iterate 4 refine wp_1 rfl ?_
  refine wp_r rfl ?_
  refine wp_1 rfl ?_
  refine wp_lv (lv' := [(2, .int 3), (4, .int 0), (3, .ref 80), (1, .int 2), (0, .ref 0)]) rfl ?_
  iterate 5 refine wp_1 rfl ?_
  refine wp_get rfl (ss_out z0 rfl) rfl rfl ?_
  refine wp_1 rfl ?_
  refine wp_aald rfl (ss_out z2 rfl) rfl rfl ?_
  refine wp_get rfl (ss_out z66 rfl) rfl rfl ?_
  refine wp_1 rfl ?_
  refine wp_aald rfl (ss_out z67 rfl) rfl rfl ?_
  iterate 5 refine wp_1 rfl ?_
  refine wp_get rfl (ss_out z85 rfl) rfl rfl ?_
  refine wp_callV rfl rfl (ss_out z89 rfl) rfl rfl rfl ?_
  refine wp_1 rfl ?_
  refine wp_get rfl (ss_out z89 rfl) rfl rfl ?_
  refine wp_r rfl ?_
  iterate 2 refine wp_1 rfl ?_
  refine wp_get rfl (ss_out z85 rfl) rfl rfl ?_
  refine wp_callV rfl rfl (ss_out z89 rfl) rfl rfl rfl ?_
  iterate 2 refine wp_1 rfl ?_
  refine wp_get rfl (ss_out z89 rfl) rfl rfl ?_
  iterate 2 refine wp_1 rfl ?_
  refine wp_put rfl (ss_out z89 rfl) rfl rfl rfl ?_
  refine wp_1 rfl ?_
  refine wp_get rfl (ss_in z89 rfl) rfl rfl ?_
  iterate 2 refine wp_1 rfl ?_
  refine wp_get rfl (ss_in z89 rfl) rfl rfl ?_
  iterate 4 refine wp_1 rfl ?_
  refine wp_put rfl (ss_in z89 rfl) rfl rfl rfl ?_
  iterate 4 refine wp_1 rfl ?_
  refine wp_r rfl ?_
  refine wp_1 rfl ?_
  refine wp_lv (lv' := [(2, .int 4), (4, .int 0), (3, .ref 85), (1, .int 2), (0, .ref 0)]) rfl ?_
  iterate 5 refine wp_1 rfl ?_
  refine wp_lv (lv' := [(1, .int 3), (2, .int 4), (4, .int 0), (3, .ref 85), (0, .ref 0)]) rfl ?_
  iterate 10 refine wp_1 rfl ?_
  refine wp_get rfl (ss_out z0 rfl) rfl rfl ?_
  refine wp_1 rfl ?_
  refine wp_aald rfl (ss_out z2 rfl) rfl rfl ?_
  refine wp_get rfl (ss_out z90 rfl) rfl rfl ?_
  refine wp_1 rfl ?_
  refine wp_aald rfl (ss_out z91 rfl) rfl rfl ?_
  iterate 5 refine wp_1 rfl ?_
  refine wp_get rfl (ss_out z99 rfl) rfl rfl ?_
  refine wp_callV rfl rfl (ss_out z103 rfl) rfl rfl rfl ?_
  refine wp_1 rfl ?_
  refine wp_get rfl (ss_out z103 rfl) rfl rfl ?_
  refine wp_r rfl ?_
  iterate 2 refine wp_1 rfl ?_
  refine wp_get rfl (ss_out z99 rfl) rfl rfl ?_
  refine wp_callV rfl rfl (ss_out z103 rfl) rfl rfl rfl ?_
  iterate 2 refine wp_1 rfl ?_
  refine wp_get rfl (ss_out z103 rfl) rfl rfl ?_
  iterate 2 refine wp_1 rfl ?_
  refine wp_put rfl (ss_out z103 rfl) rfl rfl rfl ?_
  refine wp_1 rfl ?_
  refine wp_get rfl (ss_in z103 rfl) rfl rfl ?_
  iterate 2 refine wp_1 rfl ?_
  refine wp_get rfl (ss_in z103 rfl) rfl rfl ?_
  iterate 4 refine wp_1 rfl ?_
  refine wp_put rfl (ss_in z103 rfl) rfl rfl rfl ?_
  iterate 4 refine wp_1 rfl ?_
  refine wp_r rfl ?_
  refine wp_1 rfl ?_
  refine wp_lv (lv' := [(2, .int 2), (4, .int 0), (3, .ref 99), (1, .int 3), (0, .ref 0)]) rfl ?_
  iterate 5 refine wp_1 rfl ?_
  refine wp_get rfl (ss_out z0 rfl) rfl rfl ?_
  refine wp_1 rfl ?_
  refine wp_aald rfl (ss_out z2 rfl) rfl rfl ?_
  refine wp_get rfl (ss_out z90 rfl) rfl rfl ?_
  refine wp_1 rfl ?_
  refine wp_aald rfl (ss_out z91 rfl) rfl rfl ?_
  iterate 5 refine wp_1 rfl ?_
  refine wp_get rfl (ss_out z104 rfl) rfl rfl ?_
  refine wp_callV rfl rfl (ss_out z108 rfl) rfl rfl rfl ?_
  refine wp_1 rfl ?_
  refine wp_get rfl (ss_out z108 rfl) rfl rfl ?_
  refine wp_r rfl ?_
  iterate 2 refine wp_1 rfl ?_
  refine wp_get rfl (ss_out z104 rfl) rfl rfl ?_
  refine wp_callV rfl rfl (ss_out z108 rfl) rfl rfl rfl ?_
  iterate 2 refine wp_1 rfl ?_
  refine wp_get rfl (ss_out z108 rfl) rfl rfl ?_
  iterate 2 refine wp_1 rfl ?_
  refine wp_put rfl (ss_out z108 rfl) rfl rfl rfl ?_
  refine wp_1 rfl ?_
  refine wp_get rfl (ss_in z108 rfl) rfl rfl ?_
  iterate 2 refine wp_1 rfl ?_
  refine wp_get rfl (ss_in z108 rfl) rfl rfl ?_
  iterate 4 refine wp_1 rfl ?_
  refine wp_put rfl (ss_in z108 rfl) rfl rfl rfl ?_
  iterate 4 refine wp_1 rfl ?_
  refine wp_r rfl ?_
  refine wp_1 rfl ?_
  refine wp_lv (lv' := [(2, .int 3), (4, .int 0), (3, .ref 104), (1, .int 3), (0, .ref 0)]) rfl ?_
  iterate 5 refine wp_1 rfl ?_
  refine wp_get rfl (ss_out z0 rfl) rfl rfl ?_
  refine wp_1 rfl ?_
  refine wp_aald rfl (ss_out z2 rfl) rfl rfl ?_
  refine wp_get rfl (ss_out z90 rfl) rfl rfl ?_
  refine wp_1 rfl ?_
  refine wp_aald rfl (ss_out z91 rfl) rfl rfl ?_
  iterate 5 refine wp_1 rfl ?_
  refine wp_get rfl (ss_out z109 rfl) rfl rfl ?_
  refine wp_callV rfl rfl (ss_out z113 rfl) rfl rfl rfl ?_
  refine wp_1 rfl ?_
  refine wp_get rfl (ss_out z113 rfl) rfl rfl ?_
  refine wp_r rfl ?_
  iterate 2 refine wp_1 rfl ?_
  refine wp_get rfl (ss_out z109 rfl) rfl rfl ?_
  refine wp_callV rfl rfl (ss_out z113 rfl) rfl rfl rfl ?_
  iterate 2 refine wp_1 rfl ?_
  refine wp_get rfl (ss_out z113 rfl) rfl rfl ?_
  iterate 2 refine wp_1 rfl ?_
  refine wp_put rfl (ss_out z113 rfl) rfl rfl rfl ?_
  refine wp_1 rfl ?_
  refine wp_get rfl (ss_in z113 rfl) rfl rfl ?_
  iterate 2 refine wp_1 rfl ?_
  refine wp_get rfl (ss_in z113 rfl) rfl rfl ?_
  iterate 4 refine wp_1 rfl ?_
  refine wp_put rfl (ss_in z113 rfl) rfl rfl rfl ?_
  iterate 4 refine wp_1 rfl ?_
  refine wp_r rfl ?_
  refine wp_1 rfl ?_
  refine wp_lv (lv' := [(2, .int 4), (4, .int 0), (3, .ref 109), (1, .int 3), (0, .ref 0)]) rfl ?_
  iterate 5 refine wp_1 rfl ?_
  refine wp_lv (lv' := [(1, .int 4), (2, .int 4), (4, .int 0), (3, .ref 109), (0, .ref 0)]) rfl ?_
  iterate 4 refine wp_1 rfl ?_
  refine wp_r rfl ?_
  refine wp_1 rfl ?_
  refine wp_callV rfl rfl (ss_out z0 rfl) rfl rfl rfl ?_
  iterate 4 refine wp_1 rfl ?_
  refine wp_get rfl (ss_out z0 rfl) rfl rfl ?_
  refine wp_callV rfl rfl (ss_out z9 rfl) rfl rfl rfl ?_
  refine wp_1 rfl ?_
  refine wp_get rfl (ss_out z9 rfl) rfl rfl ?_
  refine wp_r rfl ?_
  iterate 2 refine wp_1 rfl ?_
  refine wp_get rfl (ss_out z0 rfl) rfl rfl ?_
  refine wp_callV rfl rfl (ss_out z9 rfl) rfl rfl rfl ?_
  iterate 2 refine wp_1 rfl ?_
  refine wp_get rfl (ss_out z9 rfl) rfl rfl ?_
  iterate 2 refine wp_1 rfl ?_
  refine wp_put rfl (ss_out z9 rfl) rfl rfl rfl ?_
  refine wp_1 rfl ?_
  refine wp_get rfl (ss_in z9 rfl) rfl rfl ?_
  iterate 2 refine wp_1 rfl ?_
  refine wp_get rfl (ss_in z9 rfl) rfl rfl ?_
  iterate 4 refine wp_1 rfl ?_
  refine wp_put rfl (ss_in z9 rfl) rfl rfl rfl ?_
  iterate 4 refine wp_1 rfl ?_
  refine wp_r rfl ?_
  refine wp_r rfl ?_
  iterate 2 refine wp_1 rfl ?_
  refine wp_get rfl (ss_out z0 rfl) rfl rfl ?_
  iterate 2 refine wp_1 rfl ?_
  refine wp_put rfl (ss_out z0 rfl) rfl rfl rfl ?_
  refine wp_1 rfl ?_
  refine wp_callV rfl rfl (ss_in z0 rfl) rfl rfl rfl ?_
  iterate 4 refine wp_1 rfl ?_
  refine wp_get rfl (ss_in z0 rfl) rfl rfl ?_
  refine wp_callV rfl rfl (ss_out z5 rfl) rfl rfl rfl ?_
  refine wp_1 rfl ?_
  refine wp_get rfl (ss_out z5 rfl) rfl rfl ?_
  refine wp_r rfl ?_
  refine wp_1 rfl ?_
  refine wp_r rfl ?_
  iterate 7 refine wp_1 rfl ?_
  refine wp_get rfl (ss_in z0 rfl) rfl rfl ?_
  refine wp_1 rfl ?_
  refine wp_aald rfl (ss_out z2 rfl) rfl rfl ?_
  refine wp_callV rfl rfl (ss_in z0 rfl) rfl rfl rfl ?_
  refine wp_1 rfl ?_
  refine wp_get rfl (ss_out z18 rfl) rfl rfl ?_
  iterate 3 refine wp_1 rfl ?_
  refine wp_get rfl (ss_out z18 rfl) rfl rfl ?_
  iterate 2 refine wp_1 rfl ?_
  refine wp_r rfl ?_
  refine wp_1 rfl ?_
  refine wp_lv (lv' := [(3, .int 1), (2, .int i), (0, .ref 0), (1, .int n)]) rfl ?_
  iterate 6 refine wp_1 rfl ?_
  refine wp_get rfl (ss_in z0 rfl) rfl rfl ?_
  refine wp_1 rfl ?_
  refine wp_aald rfl (ss_out z2 rfl) rfl rfl ?_
  refine wp_callV rfl rfl (ss_in z0 rfl) rfl rfl rfl ?_
  refine wp_1 rfl ?_
  refine wp_get rfl (ss_out z42 rfl) rfl rfl ?_
  iterate 3 refine wp_1 rfl ?_
  refine wp_get rfl (ss_out z42 rfl) rfl rfl ?_
  iterate 2 refine wp_1 rfl ?_
  refine wp_r rfl ?_
  refine wp_1 rfl ?_
  refine wp_lv (lv' := [(3, .int 2), (2, .int i), (0, .ref 0), (1, .int n)]) rfl ?_
  iterate 6 refine wp_1 rfl ?_
  refine wp_get rfl (ss_in z0 rfl) rfl rfl ?_
  refine wp_1 rfl ?_
  refine wp_aald rfl (ss_out z2 rfl) rfl rfl ?_
  refine wp_callV rfl rfl (ss_in z0 rfl) rfl rfl rfl ?_
  refine wp_1 rfl ?_
  refine wp_get rfl (ss_out z66 rfl) rfl rfl ?_
  iterate 3 refine wp_1 rfl ?_
  refine wp_get rfl (ss_out z66 rfl) rfl rfl ?_
  iterate 2 refine wp_1 rfl ?_
  refine wp_r rfl ?_
  refine wp_1 rfl ?_
  refine wp_lv (lv' := [(3, .int 3), (2, .int i), (0, .ref 0), (1, .int n)]) rfl ?_
  iterate 6 refine wp_1 rfl ?_
  refine wp_get rfl (ss_in z0 rfl) rfl rfl ?_
  refine wp_1 rfl ?_
  refine wp_aald rfl (ss_out z2 rfl) rfl rfl ?_
  refine wp_callV rfl rfl (ss_in z0 rfl) rfl rfl rfl ?_
  refine wp_1 rfl ?_
  refine wp_get rfl (ss_out z90 rfl) rfl rfl ?_
  iterate 3 refine wp_1 rfl ?_
  refine wp_get rfl (ss_out z90 rfl) rfl rfl ?_
  iterate 2 refine wp_1 rfl ?_
  refine wp_r rfl ?_
  refine wp_1 rfl ?_
  refine wp_lv (lv' := [(3, .int 4), (2, .int i), (0, .ref 0), (1, .int n)]) rfl ?_
  iterate 5 refine wp_1 rfl ?_
  refine wp_callV rfl rfl (ss_in z0 rfl) rfl rfl rfl ?_
  iterate 6 refine wp_1 rfl ?_
  refine wp_callV rfl rfl (ss_in z0 rfl) rfl rfl rfl ?_
  iterate 4 refine wp_1 rfl ?_
  refine wp_get rfl (ss_in z0 rfl) rfl rfl ?_
  refine wp_callV rfl rfl (ss_in z9 rfl) rfl rfl rfl ?_
  refine wp_1 rfl ?_
  refine wp_get rfl (ss_in z9 rfl) rfl rfl ?_
  refine wp_r rfl ?_
  iterate 2 refine wp_1 rfl ?_
  refine wp_get rfl (ss_in z0 rfl) rfl rfl ?_
  refine wp_callV rfl rfl (ss_in z9 rfl) rfl rfl rfl ?_
  iterate 2 refine wp_1 rfl ?_
  refine wp_get rfl (ss_in z9 rfl) rfl rfl ?_
  iterate 2 refine wp_1 rfl ?_
  refine wp_put rfl (ss_in z9 rfl) rfl rfl rfl ?_
  refine wp_1 rfl ?_
  refine wp_get rfl (ss_in z9 rfl) rfl rfl ?_
  iterate 2 refine wp_1 rfl ?_
  refine wp_get rfl (ss_in z9 rfl) rfl rfl ?_
  iterate 4 refine wp_1 rfl ?_
  refine wp_put rfl (ss_in z9 rfl) rfl rfl rfl ?_
  iterate 4 refine wp_1 rfl ?_
  refine wp_r rfl ?_
  refine wp_r rfl ?_
  refine wp_1 rfl ?_
  refine wp_callV rfl rfl (ss_in z0 rfl) rfl rfl rfl ?_
  refine wp_1 rfl ?_
  refine wp_get rfl (ss_in z0 rfl) rfl rfl ?_
  refine wp_callV rfl rfl (ss_out z8 rfl) rfl rfl rfl ?_
  refine wp_1 rfl ?_
  refine wp_get rfl (ss_out z8 rfl) rfl rfl ?_
  iterate 3 refine wp_1 rfl ?_
  refine wp_r rfl ?_
  iterate 5 refine wp_1 rfl ?_
  refine wp_get rfl (ss_in z0 rfl) rfl rfl ?_
  refine wp_callV rfl rfl (ss_out z5 rfl) rfl rfl rfl ?_
  refine wp_1 rfl ?_
  refine wp_get rfl (ss_out z5 rfl) rfl rfl ?_
  refine wp_r rfl ?_
  iterate 2 refine wp_1 rfl ?_
  refine wp_r rfl ?_
  refine wp_1 rfl ?_
  refine wp_r rfl ?_
  refine wp_1 rfl ?_
  refine wp_lv (lv' := [(2, .int (i + 1)), (3, .int 4), (0, .ref 0), (1, .int n)]) rfl ?_
  refine wp_1 rfl ?_
  refine hK _ _ ?_
  exact (x_inv_c (ss_in z0 rfl) <| x_inv_c (ss_out z2 rfl) <| x_inv_c (ss_out z5 rfl) <| x_inv_c (ss_out z8 rfl) <| x_inv_c (ss_in z9 rfl) <| x_inv_c (ss_out z11 rfl) <| x_inv_c (ss_in z12 rfl) <| x_inv_c (ss_out z18 rfl) <| x_inv_c (ss_out z19 rfl) <| x_inv_c (ss_out z27 rfl) <| x_inv_c (ss_in z31 rfl) <| x_inv_c (ss_out z32 rfl) <| x_inv_c (ss_in z36 rfl) <| x_inv_c (ss_out z37 rfl) <| x_inv_c (ss_in z41 rfl) <| x_inv_c (ss_out z42 rfl) <| x_inv_c (ss_out z43 rfl) <| x_inv_c (ss_out z51 rfl) <| x_inv_c (ss_in z55 rfl) <| x_inv_c (ss_out z56 rfl) <| x_inv_c (ss_in z60 rfl) <| x_inv_c (ss_out z61 rfl) <| x_inv_c (ss_in z65 rfl) <| x_inv_c (ss_out z66 rfl) <| x_inv_c (ss_out z67 rfl) <| x_inv_c (ss_out z75 rfl) <| x_inv_c (ss_in z79 rfl) <| x_inv_c (ss_out z80 rfl) <| x_inv_c (ss_in z84 rfl) <| x_inv_c (ss_out z85 rfl) <| x_inv_c (ss_in z89 rfl) <| x_inv_c (ss_out z90 rfl) <| x_inv_c (ss_out z91 rfl) <| x_inv_c (ss_out z99 rfl) <| x_inv_c (ss_in z103 rfl) <| x_inv_c (ss_out z104 rfl) <| x_inv_c (ss_in z108 rfl) <| x_inv_c (ss_out z109 rfl) <| x_inv_c (ss_in z113 rfl) <| x_inv_c (ss_out z114 rfl) <| x_inv_c (ss_out z115 rfl) <| x_inv_c (ss_out z136 rfl) <| x_inv_c (ss_out z139 rfl) <| x_inv_c (ss_out z140 rfl) <| x_inv_c (ss_out z144 rfl) <| x_inv_c (ss_out z148 rfl) <| x_inv_c (ss_out z152 rfl) <| x_inv_c (ss_out z155 rfl) <| x_inv_c (ss_out z156 rfl) <| x_inv_c (ss_out z160 rfl) <| x_inv_c (ss_out z164 rfl) <| x_inv_c (ss_out z168 rfl) <| x_inv_c (ss_out z171 rfl) <| x_inv_c (ss_out z172 rfl) <| x_inv_c (ss_out z176 rfl) <| x_inv_c (ss_out z180 rfl) <| x_inv_c (ss_out z184 rfl) <| x_inv_c (ss_out z187 rfl) <| x_inv_c (ss_out z188 rfl) <| x_inv_c (ss_out z192 rfl) <| x_inv_c (ss_out z196 rfl) <| x_inv_c (ss_out z200 rfl) <| x_inv_n)
end XTick
