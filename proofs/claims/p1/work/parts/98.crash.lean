section XCrash
def x_LC : List (Nat × xE) := [(0, .inr (0, [.ref 1, .int 0, .ref 2, .ref 3, .ref 4, .ref 5, .ref 6, .ref 7, .ref 8, .ref 9, .ref 10, .ref 11, .ref 14, .ref 16, .int 0, .int 0, .int 0, .int 0, .int 0, .int 0, .int 0])),
  (2, .inl (5, 4, [(3, .ref 90), (2, .ref 66), (1, .ref 42), (0, .ref 18)])),
  (4, .inr (2, [.ref 1000000000, .int 0, .int 0])),
  (5, .inr (2, [.ref 1000000000, .int 0, .int 0])),
  (6, .inr (2, [.ref 1000000000, .int 0, .int 0])),
  (7, .inr (2, [.ref 1000000000, .int 0, .int 0])),
  (8, .inr (2, [.ref 1000000000, .int 0, .int 0])),
  (11, .inr (3, [.ref 12, .ref 13])),
  (12, .inr (2, [.ref 1000000000, .int 0, .int 0])),
  (13, .inr (2, [.ref 1000000000, .int 0, .int 0])),
  (18, .inr (6, [.ref 19, .int 0, .int 0, .int 0, .int 0, .int 0, .ref 20, .int 0, .int 0, .ref 21, .int 0, .int 0, .int 0, .int 0])),
  (19, .inl (6, 4, [(3, .ref 37), (2, .ref 32), (1, .ref 27), (0, .ref 22)])),
  (27, .inr (7, [.ref 18, .int 1, .int 0, .int 0, .int 1, .int 0, .int 0, .int 0, .int 0, .int 0, .ref 1000000101, .int 0, .null, .int 0, .ref 28, .int 0, .int 0, .ref 29, .ref 30, .ref 31])),
  (28, .inr (2, [.ref 1000000000, .int 0, .int 0])),
  (31, .inr (2, [.ref 1000000000, .int 0, .int 0])),
  (32, .inr (7, [.ref 18, .int 2, .int 0, .int 0, .int 1, .int 0, .int 0, .int 0, .int 0, .int 0, .ref 1000000101, .int 0, .null, .int 0, .ref 33, .int 0, .int 0, .ref 34, .ref 35, .ref 36])),
  (33, .inr (2, [.ref 1000000000, .int 0, .int 0])),
  (36, .inr (2, [.ref 1000000000, .int 0, .int 0])),
  (37, .inr (7, [.ref 18, .int 3, .int 0, .int 0, .int 1, .int 0, .int 0, .int 0, .int 0, .int 0, .ref 1000000101, .int 0, .null, .int 0, .ref 38, .int 0, .int 0, .ref 39, .ref 40, .ref 41])),
  (38, .inr (2, [.ref 1000000000, .int 0, .int 0])),
  (41, .inr (2, [.ref 1000000000, .int 0, .int 0])),
  (42, .inr (6, [.ref 43, .int 0, .int 0, .int 0, .int 0, .int 0, .ref 44, .int 0, .int 0, .ref 45, .int 0, .int 0, .int 0, .int 0])),
  (43, .inl (6, 4, [(3, .ref 61), (2, .ref 56), (1, .ref 51), (0, .ref 46)])),
  (51, .inr (7, [.ref 42, .int 1, .int 0, .int 0, .int 1, .int 0, .int 0, .int 0, .int 0, .int 0, .ref 1000000101, .int 0, .null, .int 0, .ref 52, .int 0, .int 0, .ref 53, .ref 54, .ref 55])),
  (52, .inr (2, [.ref 1000000000, .int 0, .int 0])),
  (55, .inr (2, [.ref 1000000000, .int 0, .int 0])),
  (56, .inr (7, [.ref 42, .int 2, .int 0, .int 0, .int 1, .int 0, .int 0, .int 0, .int 0, .int 0, .ref 1000000101, .int 0, .null, .int 0, .ref 57, .int 0, .int 0, .ref 58, .ref 59, .ref 60])),
  (57, .inr (2, [.ref 1000000000, .int 0, .int 0])),
  (60, .inr (2, [.ref 1000000000, .int 0, .int 0])),
  (61, .inr (7, [.ref 42, .int 3, .int 0, .int 0, .int 1, .int 0, .int 0, .int 0, .int 0, .int 0, .ref 1000000101, .int 0, .null, .int 0, .ref 62, .int 0, .int 0, .ref 63, .ref 64, .ref 65])),
  (62, .inr (2, [.ref 1000000000, .int 0, .int 0])),
  (65, .inr (2, [.ref 1000000000, .int 0, .int 0])),
  (66, .inr (6, [.ref 67, .int 0, .int 0, .int 0, .int 0, .int 0, .ref 68, .int 0, .int 0, .ref 69, .int 0, .int 0, .int 0, .int 0])),
  (67, .inl (6, 4, [(3, .ref 85), (2, .ref 80), (1, .ref 75), (0, .ref 70)])),
  (75, .inr (7, [.ref 66, .int 1, .int 0, .int 0, .int 1, .int 0, .int 0, .int 0, .int 0, .int 0, .ref 1000000101, .int 0, .null, .int 0, .ref 76, .int 0, .int 0, .ref 77, .ref 78, .ref 79])),
  (76, .inr (2, [.ref 1000000000, .int 0, .int 0])),
  (79, .inr (2, [.ref 1000000000, .int 0, .int 0])),
  (80, .inr (7, [.ref 66, .int 2, .int 0, .int 0, .int 1, .int 0, .int 0, .int 0, .int 0, .int 0, .ref 1000000101, .int 0, .null, .int 0, .ref 81, .int 0, .int 0, .ref 82, .ref 83, .ref 84])),
  (81, .inr (2, [.ref 1000000000, .int 0, .int 0])),
  (84, .inr (2, [.ref 1000000000, .int 0, .int 0])),
  (85, .inr (7, [.ref 66, .int 3, .int 0, .int 0, .int 1, .int 0, .int 0, .int 0, .int 0, .int 0, .ref 1000000101, .int 0, .null, .int 0, .ref 86, .int 0, .int 0, .ref 87, .ref 88, .ref 89])),
  (86, .inr (2, [.ref 1000000000, .int 0, .int 0])),
  (89, .inr (2, [.ref 1000000000, .int 0, .int 0])),
  (90, .inr (6, [.ref 91, .int 0, .int 0, .int 0, .int 0, .int 0, .ref 92, .int 0, .int 0, .ref 93, .int 0, .int 0, .int 0, .int 0])),
  (91, .inl (6, 4, [(3, .ref 109), (2, .ref 104), (1, .ref 99), (0, .ref 94)])),
  (99, .inr (7, [.ref 90, .int 1, .int 0, .int 0, .int 1, .int 0, .int 0, .int 0, .int 0, .int 0, .ref 1000000101, .int 0, .null, .int 0, .ref 100, .int 0, .int 0, .ref 101, .ref 102, .ref 103])),
  (100, .inr (2, [.ref 1000000000, .int 0, .int 0])),
  (103, .inr (2, [.ref 1000000000, .int 0, .int 0])),
  (104, .inr (7, [.ref 90, .int 2, .int 0, .int 0, .int 1, .int 0, .int 0, .int 0, .int 0, .int 0, .ref 1000000101, .int 0, .null, .int 0, .ref 105, .int 0, .int 0, .ref 106, .ref 107, .ref 108])),
  (105, .inr (2, [.ref 1000000000, .int 0, .int 0])),
  (108, .inr (2, [.ref 1000000000, .int 0, .int 0])),
  (109, .inr (7, [.ref 90, .int 3, .int 0, .int 0, .int 1, .int 0, .int 0, .int 0, .int 0, .int 0, .ref 1000000101, .int 0, .null, .int 0, .ref 110, .int 0, .int 0, .ref 111, .ref 112, .ref 113])),
  (110, .inr (2, [.ref 1000000000, .int 0, .int 0])),
  (113, .inr (2, [.ref 1000000000, .int 0, .int 0])),
  (114, .inr (20, [.ref 115, .ref 116, .ref 117, .ref 118, .ref 119, .int 0, .int 0, .int 0, .int 0, .int 0, .int 0, .int 0, .int 0, .int 0, .ref 120, .int 0, .ref 121, .int 0, .ref 122, .ref 123, .ref 124, .ref 125, .int 0, .int 0, .int 0, .int 0, .ref 126, .int 0, .int 0, .ref 127, .int 0, .int 0, .int 0, .int 0, .int 0, .ref 128, .int 0, .int 0, .ref 129, .ref 130, .ref 131, .ref 132, .ref 133, .ref 134, .ref 135, .int 0])),
  (115, .inl (9, 4, [(3, .ref 184), (2, .ref 168), (1, .ref 152), (0, .ref 136)])),
  (136, .inr (21, [.int 0, .int 0, .int 0, .int 0, .int 0, .int 0, .int 0, .int 0, .int 0, .int 0, .ref 137, .ref 138, .ref 139])),
  (139, .inl (17, 4, [(3, .ref 148), (2, .ref 144), (1, .ref 140)])),
  (140, .inr (22, [.ref 136, .int 1, .int 0, .int 0, .int 0, .int 0, .int 0, .int 0, .int 0, .int 0, .int 0, .int 0, .int 0, .int 0, .null, .null, .ref 141, .ref 142, .ref 143])),
  (144, .inr (22, [.ref 136, .int 2, .int 0, .int 0, .int 0, .int 0, .int 0, .int 0, .int 0, .int 0, .int 0, .int 0, .int 0, .int 0, .null, .null, .ref 145, .ref 146, .ref 147])),
  (148, .inr (22, [.ref 136, .int 3, .int 0, .int 0, .int 0, .int 0, .int 0, .int 0, .int 0, .int 0, .int 0, .int 0, .int 0, .int 0, .null, .null, .ref 149, .ref 150, .ref 151])),
  (152, .inr (21, [.int 1, .int 0, .int 0, .int 0, .int 0, .int 0, .int 0, .int 0, .int 0, .int 0, .ref 153, .ref 154, .ref 155])),
  (155, .inl (17, 4, [(3, .ref 164), (2, .ref 160), (1, .ref 156)])),
  (156, .inr (22, [.ref 152, .int 1, .int 0, .int 0, .int 0, .int 0, .int 0, .int 0, .int 0, .int 0, .int 0, .int 0, .int 0, .int 0, .null, .null, .ref 157, .ref 158, .ref 159])),
  (160, .inr (22, [.ref 152, .int 2, .int 0, .int 0, .int 0, .int 0, .int 0, .int 0, .int 0, .int 0, .int 0, .int 0, .int 0, .int 0, .null, .null, .ref 161, .ref 162, .ref 163])),
  (164, .inr (22, [.ref 152, .int 3, .int 0, .int 0, .int 0, .int 0, .int 0, .int 0, .int 0, .int 0, .int 0, .int 0, .int 0, .int 0, .null, .null, .ref 165, .ref 166, .ref 167])),
  (168, .inr (21, [.int 2, .int 0, .int 0, .int 0, .int 0, .int 0, .int 0, .int 0, .int 0, .int 0, .ref 169, .ref 170, .ref 171])),
  (171, .inl (17, 4, [(3, .ref 180), (2, .ref 176), (1, .ref 172)])),
  (172, .inr (22, [.ref 168, .int 1, .int 0, .int 0, .int 0, .int 0, .int 0, .int 0, .int 0, .int 0, .int 0, .int 0, .int 0, .int 0, .null, .null, .ref 173, .ref 174, .ref 175])),
  (176, .inr (22, [.ref 168, .int 2, .int 0, .int 0, .int 0, .int 0, .int 0, .int 0, .int 0, .int 0, .int 0, .int 0, .int 0, .int 0, .null, .null, .ref 177, .ref 178, .ref 179])),
  (180, .inr (22, [.ref 168, .int 3, .int 0, .int 0, .int 0, .int 0, .int 0, .int 0, .int 0, .int 0, .int 0, .int 0, .int 0, .int 0, .null, .null, .ref 181, .ref 182, .ref 183])),
  (184, .inr (21, [.int 3, .int 0, .int 0, .int 0, .int 0, .int 0, .int 0, .int 0, .int 0, .int 0, .ref 185, .ref 186, .ref 187])),
  (187, .inl (17, 4, [(3, .ref 196), (2, .ref 192), (1, .ref 188)])),
  (188, .inr (22, [.ref 184, .int 1, .int 0, .int 0, .int 0, .int 0, .int 0, .int 0, .int 0, .int 0, .int 0, .int 0, .int 0, .int 0, .null, .null, .ref 189, .ref 190, .ref 191])),
  (192, .inr (22, [.ref 184, .int 2, .int 0, .int 0, .int 0, .int 0, .int 0, .int 0, .int 0, .int 0, .int 0, .int 0, .int 0, .int 0, .null, .null, .ref 193, .ref 194, .ref 195])),
  (196, .inr (22, [.ref 184, .int 3, .int 0, .int 0, .int 0, .int 0, .int 0, .int 0, .int 0, .int 0, .int 0, .int 0, .int 0, .int 0, .null, .null, .ref 197, .ref 198, .ref 199])),
  (200, .inl (4, 1, []))]
def x_LM : List (Nat × xE) := [(114, .inr (20, [.ref 115, .ref 116, .ref 117, .ref 118, .ref 119, .int 0, .int 0, .int 0, .int 0, .int 0, .int 0, .int 0, .int 0, .int 0, .ref 120, .int 0, .ref 121, .int 0, .ref 122, .ref 123, .ref 124, .ref 125, .int 0, .int 0, .int 0, .int 0, .ref 126, .int 0, .int 0, .ref 127, .int 0, .int 0, .int 0, .int 0, .int 0, .ref 128, .int 0, .int 0, .ref 129, .ref 130, .ref 131, .ref 132, .ref 133, .ref 134, .ref 135, .int 0])),
  (115, .inl (9, 4, [(3, .ref 184), (2, .ref 168), (1, .ref 152), (0, .ref 136)])),
  (136, .inr (21, [.int 0, .int 0, .int 0, .int 0, .int 0, .int 0, .int 0, .int 0, .int 0, .int 0, .ref 137, .ref 138, .ref 139])),
  (139, .inl (17, 4, [(3, .ref 148), (2, .ref 144), (1, .ref 140)])),
  (140, .inr (22, [.ref 136, .int 1, .int 0, .int 0, .int 0, .int 0, .int 0, .int 0, .int 0, .int 0, .int 0, .int 0, .int 0, .int 0, .null, .null, .ref 141, .ref 142, .ref 143])),
  (144, .inr (22, [.ref 136, .int 2, .int 0, .int 0, .int 0, .int 0, .int 0, .int 0, .int 0, .int 0, .int 0, .int 0, .int 0, .int 0, .null, .null, .ref 145, .ref 146, .ref 147])),
  (148, .inr (22, [.ref 136, .int 3, .int 0, .int 0, .int 0, .int 0, .int 0, .int 0, .int 0, .int 0, .int 0, .int 0, .int 0, .int 0, .null, .null, .ref 149, .ref 150, .ref 151])),
  (152, .inr (21, [.int 1, .int 0, .int 0, .int 0, .int 0, .int 0, .int 0, .int 0, .int 0, .int 0, .ref 153, .ref 154, .ref 155])),
  (155, .inl (17, 4, [(3, .ref 164), (2, .ref 160), (1, .ref 156)])),
  (156, .inr (22, [.ref 152, .int 1, .int 0, .int 0, .int 0, .int 0, .int 0, .int 0, .int 0, .int 0, .int 0, .int 0, .int 0, .int 0, .null, .null, .ref 157, .ref 158, .ref 159])),
  (160, .inr (22, [.ref 152, .int 2, .int 0, .int 0, .int 0, .int 0, .int 0, .int 0, .int 0, .int 0, .int 0, .int 0, .int 0, .int 0, .null, .null, .ref 161, .ref 162, .ref 163])),
  (164, .inr (22, [.ref 152, .int 3, .int 0, .int 0, .int 0, .int 0, .int 0, .int 0, .int 0, .int 0, .int 0, .int 0, .int 0, .int 0, .null, .null, .ref 165, .ref 166, .ref 167])),
  (168, .inr (21, [.int 2, .int 0, .int 0, .int 0, .int 0, .int 0, .int 0, .int 0, .int 0, .int 0, .ref 169, .ref 170, .ref 171])),
  (171, .inl (17, 4, [(3, .ref 180), (2, .ref 176), (1, .ref 172)])),
  (172, .inr (22, [.ref 168, .int 1, .int 0, .int 0, .int 0, .int 0, .int 0, .int 0, .int 0, .int 0, .int 0, .int 0, .int 0, .int 0, .null, .null, .ref 173, .ref 174, .ref 175])),
  (176, .inr (22, [.ref 168, .int 2, .int 0, .int 0, .int 0, .int 0, .int 0, .int 0, .int 0, .int 0, .int 0, .int 0, .int 0, .int 0, .null, .null, .ref 177, .ref 178, .ref 179])),
  (180, .inr (22, [.ref 168, .int 3, .int 0, .int 0, .int 0, .int 0, .int 0, .int 0, .int 0, .int 0, .int 0, .int 0, .int 0, .int 0, .null, .null, .ref 181, .ref 182, .ref 183])),
  (184, .inr (21, [.int 3, .int 0, .int 0, .int 0, .int 0, .int 0, .int 0, .int 0, .int 0, .int 0, .ref 185, .ref 186, .ref 187])),
  (187, .inl (17, 4, [(3, .ref 196), (2, .ref 192), (1, .ref 188)])),
  (188, .inr (22, [.ref 184, .int 1, .int 0, .int 0, .int 0, .int 0, .int 0, .int 0, .int 0, .int 0, .int 0, .int 0, .int 0, .int 0, .null, .null, .ref 189, .ref 190, .ref 191])),
  (192, .inr (22, [.ref 184, .int 2, .int 0, .int 0, .int 0, .int 0, .int 0, .int 0, .int 0, .int 0, .int 0, .int 0, .int 0, .int 0, .null, .null, .ref 193, .ref 194, .ref 195])),
  (196, .inr (22, [.ref 184, .int 3, .int 0, .int 0, .int 0, .int 0, .int 0, .int 0, .int 0, .int 0, .int 0, .int 0, .int 0, .int 0, .null, .null, .ref 197, .ref 198, .ref 199])),
  (200, .inl (4, 1, [(0, .long (0 : Int32).toInt64)]))]
theorem app_at {h : xH} {q c : xE} {a : Nat} (hz : h[a]? = some c) : (h ++ [q])[a]? = some c := by
  rw [List.getElem?_append_left (List.getElem?_eq_some_iff.mp hz).1]
  exact hz
theorem wp_anew {d j k k1 t : Nat} {i : Int32} {lv : xL} {st : List Value} {h : xH} {l : List (Nat × xE)} {nc ns : Nat} {Z : Option Value → xH → Nat → Nat → Prop} (hc : (x_pr j).2 k = xi_anewarray k1 t) (hb : decide (¬ i < 0 ∧ i.toNatClampNeg * 4 ≤ 536870912) = true) (hlen : h.length < xT) (hr : x_WP d j k1 lv (.ref h.length :: st) (x_ss h l ++ [.inl (t, i.toNatClampNeg, [])]) (nc + 1) (ns + i.toNatClampNeg) Z) : x_WP d j k lv (.int i :: st) (x_ss h l) nc ns Z := by
  refine wp_1 ?_ hr
  rw [hc]
  unfold xi_anewarray
  dsimp only
  have hb' := of_decide_eq_true hb
  rw [if_pos ⟨hb'.1, hb'.2, by rw [x_ss_len]; exact hlen⟩, x_ss_len]
set_option maxHeartbeats 4000000 in
theorem cr_Hz {h : xH} {n : Int32} {Z : Option Value → xH → Nat → Nat → Prop} (hz : x_inv h x_LC) (b0 : ¬ n < 0) (b1 : n ≤ 0) (hK : ∀ h' : xH, h'.length = h.length → x_inv h' x_LM → Z (some (.int 0)) h' 0 0) : x_WP 12 493 0 (lv_args 0 [.ref 0, .int n, .ref 200]) [] h 0 0 Z := by
  obtain ⟨z0, z2, z4, z5, z6, z7, z8, z11, z12, z13, z18, z19, z27, z28, z31, z32, z33, z36, z37, z38, z41, z42, z43, z51, z52, z55, z56, z57, z60, z61, z62, z65, z66, z67, z75, z76, z79, z80, z81, z84, z85, z86, z89, z90, z91, z99, z100, z103, z104, z105, z108, z109, z110, z113, z114, z115, z136, z139, z140, z144, z148, z152, z155, z156, z160, z164, z168, z171, z172, z176, z180, z184, z187, z188, z192, z196, z200, -⟩ := hz
  refine wp_ov ?_
  iterate 4 refine wp_1 rfl ?_
  refine wp_callV rfl rfl (ss_out z0 rfl) rfl rfl rfl ?_
  iterate 2 refine wp_1 rfl ?_
  refine wp_pc (if_neg b0) ?_
  refine wp_1 rfl ?_
  refine wp_get rfl (ss_out z0 rfl) rfl rfl ?_
  iterate 4 refine wp_1 rfl ?_
  refine wp_get rfl (ss_out z0 rfl) rfl rfl ?_
  iterate 2 refine wp_1 rfl ?_
  refine wp_put rfl (ss_out z0 rfl) rfl rfl rfl ?_
  iterate 6 refine wp_1 rfl ?_
  refine wp_get rfl (ss_in z0 rfl) rfl rfl ?_
  refine wp_1 rfl ?_
  refine wp_aald rfl (ss_out z2 rfl) rfl rfl ?_
  refine wp_callV rfl rfl (ss_out z18 rfl) rfl rfl rfl ?_
  iterate 2 refine wp_1 rfl ?_
  refine wp_put rfl (ss_out z18 rfl) rfl rfl rfl ?_
  iterate 2 refine wp_1 rfl ?_
  refine wp_put rfl (ss_in z18 rfl) rfl rfl rfl ?_
  iterate 4 refine wp_1 rfl ?_
  refine wp_get rfl (ss_in z18 rfl) rfl rfl ?_
  refine wp_alen rfl (ss_out z19 rfl) ?_
  iterate 2 refine wp_1 rfl ?_
  refine wp_get rfl (ss_in z18 rfl) rfl rfl ?_
  refine wp_1 rfl ?_
  refine wp_aald rfl (ss_out z19 rfl) rfl rfl ?_
  refine wp_1 rfl ?_
  refine wp_put rfl (ss_out z27 rfl) rfl rfl rfl ?_
  refine wp_1 rfl ?_
  refine wp_get rfl (ss_in z18 rfl) rfl rfl ?_
  refine wp_1 rfl ?_
  refine wp_aald rfl (ss_out z19 rfl) rfl rfl ?_
  refine wp_callV rfl rfl (ss_in z27 rfl) rfl rfl rfl ?_
  iterate 2 refine wp_1 rfl ?_
  refine wp_put rfl (ss_in z27 rfl) rfl rfl rfl ?_
  iterate 2 refine wp_1 rfl ?_
  refine wp_put rfl (ss_in z27 rfl) rfl rfl rfl ?_
  refine wp_1 rfl ?_
  refine wp_get rfl (ss_in z27 rfl) rfl rfl ?_
  refine wp_callV rfl rfl (ss_out z28 rfl) rfl rfl rfl ?_
  iterate 2 refine wp_1 rfl ?_
  refine wp_get rfl (ss_out z28 rfl) rfl rfl ?_
  iterate 2 refine wp_1 rfl ?_
  refine wp_put rfl (ss_out z28 rfl) rfl rfl rfl ?_
  refine wp_1 rfl ?_
  refine wp_get rfl (ss_in z28 rfl) rfl rfl ?_
  iterate 2 refine wp_1 rfl ?_
  refine wp_get rfl (ss_in z28 rfl) rfl rfl ?_
  iterate 4 refine wp_1 rfl ?_
  refine wp_put rfl (ss_in z28 rfl) rfl rfl rfl ?_
  iterate 4 refine wp_1 rfl ?_
  refine wp_r rfl ?_
  iterate 2 refine wp_1 rfl ?_
  refine wp_put rfl (ss_in z27 rfl) rfl rfl rfl ?_
  iterate 2 refine wp_1 rfl ?_
  refine wp_put rfl (ss_in z27 rfl) rfl rfl rfl ?_
  refine wp_1 rfl ?_
  refine wp_get rfl (ss_in z27 rfl) rfl rfl ?_
  refine wp_callV rfl rfl (ss_out z31 rfl) rfl rfl rfl ?_
  iterate 2 refine wp_1 rfl ?_
  refine wp_get rfl (ss_out z31 rfl) rfl rfl ?_
  iterate 2 refine wp_1 rfl ?_
  refine wp_put rfl (ss_out z31 rfl) rfl rfl rfl ?_
  refine wp_1 rfl ?_
  refine wp_get rfl (ss_in z31 rfl) rfl rfl ?_
  iterate 2 refine wp_1 rfl ?_
  refine wp_get rfl (ss_in z31 rfl) rfl rfl ?_
  iterate 4 refine wp_1 rfl ?_
  refine wp_put rfl (ss_in z31 rfl) rfl rfl rfl ?_
  iterate 4 refine wp_1 rfl ?_
  refine wp_r rfl ?_
  refine wp_r rfl ?_
  refine wp_1 rfl ?_
  refine wp_lv (lv' := [(1, .int 2), (0, .ref 18)]) rfl ?_
  iterate 3 refine wp_1 rfl ?_
  refine wp_get rfl (ss_in z18 rfl) rfl rfl ?_
  refine wp_alen rfl (ss_out z19 rfl) ?_
  iterate 2 refine wp_1 rfl ?_
  refine wp_get rfl (ss_in z18 rfl) rfl rfl ?_
  refine wp_1 rfl ?_
  refine wp_aald rfl (ss_out z19 rfl) rfl rfl ?_
  refine wp_1 rfl ?_
  refine wp_put rfl (ss_out z32 rfl) rfl rfl rfl ?_
  refine wp_1 rfl ?_
  refine wp_get rfl (ss_in z18 rfl) rfl rfl ?_
  refine wp_1 rfl ?_
  refine wp_aald rfl (ss_out z19 rfl) rfl rfl ?_
  refine wp_callV rfl rfl (ss_in z32 rfl) rfl rfl rfl ?_
  iterate 2 refine wp_1 rfl ?_
  refine wp_put rfl (ss_in z32 rfl) rfl rfl rfl ?_
  iterate 2 refine wp_1 rfl ?_
  refine wp_put rfl (ss_in z32 rfl) rfl rfl rfl ?_
  refine wp_1 rfl ?_
  refine wp_get rfl (ss_in z32 rfl) rfl rfl ?_
  refine wp_callV rfl rfl (ss_out z33 rfl) rfl rfl rfl ?_
  iterate 2 refine wp_1 rfl ?_
  refine wp_get rfl (ss_out z33 rfl) rfl rfl ?_
  iterate 2 refine wp_1 rfl ?_
  refine wp_put rfl (ss_out z33 rfl) rfl rfl rfl ?_
  refine wp_1 rfl ?_
  refine wp_get rfl (ss_in z33 rfl) rfl rfl ?_
  iterate 2 refine wp_1 rfl ?_
  refine wp_get rfl (ss_in z33 rfl) rfl rfl ?_
  iterate 4 refine wp_1 rfl ?_
  refine wp_put rfl (ss_in z33 rfl) rfl rfl rfl ?_
  iterate 4 refine wp_1 rfl ?_
  refine wp_r rfl ?_
  iterate 2 refine wp_1 rfl ?_
  refine wp_put rfl (ss_in z32 rfl) rfl rfl rfl ?_
  iterate 2 refine wp_1 rfl ?_
  refine wp_put rfl (ss_in z32 rfl) rfl rfl rfl ?_
  refine wp_1 rfl ?_
  refine wp_get rfl (ss_in z32 rfl) rfl rfl ?_
  refine wp_callV rfl rfl (ss_out z36 rfl) rfl rfl rfl ?_
  iterate 2 refine wp_1 rfl ?_
  refine wp_get rfl (ss_out z36 rfl) rfl rfl ?_
  iterate 2 refine wp_1 rfl ?_
  refine wp_put rfl (ss_out z36 rfl) rfl rfl rfl ?_
  refine wp_1 rfl ?_
  refine wp_get rfl (ss_in z36 rfl) rfl rfl ?_
  iterate 2 refine wp_1 rfl ?_
  refine wp_get rfl (ss_in z36 rfl) rfl rfl ?_
  iterate 4 refine wp_1 rfl ?_
  refine wp_put rfl (ss_in z36 rfl) rfl rfl rfl ?_
  iterate 4 refine wp_1 rfl ?_
  refine wp_r rfl ?_
  refine wp_r rfl ?_
  refine wp_1 rfl ?_
  refine wp_lv (lv' := [(1, .int 3), (0, .ref 18)]) rfl ?_
  iterate 3 refine wp_1 rfl ?_
  refine wp_get rfl (ss_in z18 rfl) rfl rfl ?_
  refine wp_alen rfl (ss_out z19 rfl) ?_
  iterate 2 refine wp_1 rfl ?_
  refine wp_get rfl (ss_in z18 rfl) rfl rfl ?_
  refine wp_1 rfl ?_
  refine wp_aald rfl (ss_out z19 rfl) rfl rfl ?_
  refine wp_1 rfl ?_
  refine wp_put rfl (ss_out z37 rfl) rfl rfl rfl ?_
  refine wp_1 rfl ?_
  refine wp_get rfl (ss_in z18 rfl) rfl rfl ?_
  refine wp_1 rfl ?_
  refine wp_aald rfl (ss_out z19 rfl) rfl rfl ?_
  refine wp_callV rfl rfl (ss_in z37 rfl) rfl rfl rfl ?_
  iterate 2 refine wp_1 rfl ?_
  refine wp_put rfl (ss_in z37 rfl) rfl rfl rfl ?_
  iterate 2 refine wp_1 rfl ?_
  refine wp_put rfl (ss_in z37 rfl) rfl rfl rfl ?_
  refine wp_1 rfl ?_
  refine wp_get rfl (ss_in z37 rfl) rfl rfl ?_
  refine wp_callV rfl rfl (ss_out z38 rfl) rfl rfl rfl ?_
  iterate 2 refine wp_1 rfl ?_
  refine wp_get rfl (ss_out z38 rfl) rfl rfl ?_
  iterate 2 refine wp_1 rfl ?_
  refine wp_put rfl (ss_out z38 rfl) rfl rfl rfl ?_
  refine wp_1 rfl ?_
  refine wp_get rfl (ss_in z38 rfl) rfl rfl ?_
  iterate 2 refine wp_1 rfl ?_
  refine wp_get rfl (ss_in z38 rfl) rfl rfl ?_
  iterate 4 refine wp_1 rfl ?_
  refine wp_put rfl (ss_in z38 rfl) rfl rfl rfl ?_
  iterate 4 refine wp_1 rfl ?_
  refine wp_r rfl ?_
  iterate 2 refine wp_1 rfl ?_
  refine wp_put rfl (ss_in z37 rfl) rfl rfl rfl ?_
  iterate 2 refine wp_1 rfl ?_
  refine wp_put rfl (ss_in z37 rfl) rfl rfl rfl ?_
  refine wp_1 rfl ?_
  refine wp_get rfl (ss_in z37 rfl) rfl rfl ?_
  refine wp_callV rfl rfl (ss_out z41 rfl) rfl rfl rfl ?_
  iterate 2 refine wp_1 rfl ?_
  refine wp_get rfl (ss_out z41 rfl) rfl rfl ?_
  iterate 2 refine wp_1 rfl ?_
  refine wp_put rfl (ss_out z41 rfl) rfl rfl rfl ?_
  refine wp_1 rfl ?_
  refine wp_get rfl (ss_in z41 rfl) rfl rfl ?_
  iterate 2 refine wp_1 rfl ?_
  refine wp_get rfl (ss_in z41 rfl) rfl rfl ?_
  iterate 4 refine wp_1 rfl ?_
  refine wp_put rfl (ss_in z41 rfl) rfl rfl rfl ?_
  iterate 4 refine wp_1 rfl ?_
  refine wp_r rfl ?_
  refine wp_r rfl ?_
  refine wp_1 rfl ?_
  refine wp_lv (lv' := [(1, .int 4), (0, .ref 18)]) rfl ?_
  iterate 3 refine wp_1 rfl ?_
  refine wp_get rfl (ss_in z18 rfl) rfl rfl ?_
  refine wp_alen rfl (ss_out z19 rfl) ?_
  refine wp_1 rfl ?_
  refine wp_r rfl ?_
  refine wp_1 rfl ?_
  refine wp_lv (lv' := [(2, .int 1), (0, .ref 0), (1, .int n)]) rfl ?_
  iterate 5 refine wp_1 rfl ?_
  refine wp_get rfl (ss_in z0 rfl) rfl rfl ?_
  refine wp_1 rfl ?_
  refine wp_aald rfl (ss_out z2 rfl) rfl rfl ?_
  refine wp_callV rfl rfl (ss_out z42 rfl) rfl rfl rfl ?_
  iterate 2 refine wp_1 rfl ?_
  refine wp_put rfl (ss_out z42 rfl) rfl rfl rfl ?_
  iterate 2 refine wp_1 rfl ?_
  refine wp_put rfl (ss_in z42 rfl) rfl rfl rfl ?_
  iterate 4 refine wp_1 rfl ?_
  refine wp_get rfl (ss_in z42 rfl) rfl rfl ?_
  refine wp_alen rfl (ss_out z43 rfl) ?_
  iterate 2 refine wp_1 rfl ?_
  refine wp_get rfl (ss_in z42 rfl) rfl rfl ?_
  refine wp_1 rfl ?_
  refine wp_aald rfl (ss_out z43 rfl) rfl rfl ?_
  refine wp_1 rfl ?_
  refine wp_put rfl (ss_out z51 rfl) rfl rfl rfl ?_
  refine wp_1 rfl ?_
  refine wp_get rfl (ss_in z42 rfl) rfl rfl ?_
  refine wp_1 rfl ?_
  refine wp_aald rfl (ss_out z43 rfl) rfl rfl ?_
  refine wp_callV rfl rfl (ss_in z51 rfl) rfl rfl rfl ?_
  iterate 2 refine wp_1 rfl ?_
  refine wp_put rfl (ss_in z51 rfl) rfl rfl rfl ?_
  iterate 2 refine wp_1 rfl ?_
  refine wp_put rfl (ss_in z51 rfl) rfl rfl rfl ?_
  refine wp_1 rfl ?_
  refine wp_get rfl (ss_in z51 rfl) rfl rfl ?_
  refine wp_callV rfl rfl (ss_out z52 rfl) rfl rfl rfl ?_
  iterate 2 refine wp_1 rfl ?_
  refine wp_get rfl (ss_out z52 rfl) rfl rfl ?_
  iterate 2 refine wp_1 rfl ?_
  refine wp_put rfl (ss_out z52 rfl) rfl rfl rfl ?_
  refine wp_1 rfl ?_
  refine wp_get rfl (ss_in z52 rfl) rfl rfl ?_
  iterate 2 refine wp_1 rfl ?_
  refine wp_get rfl (ss_in z52 rfl) rfl rfl ?_
  iterate 4 refine wp_1 rfl ?_
  refine wp_put rfl (ss_in z52 rfl) rfl rfl rfl ?_
  iterate 4 refine wp_1 rfl ?_
  refine wp_r rfl ?_
  iterate 2 refine wp_1 rfl ?_
  refine wp_put rfl (ss_in z51 rfl) rfl rfl rfl ?_
  iterate 2 refine wp_1 rfl ?_
  refine wp_put rfl (ss_in z51 rfl) rfl rfl rfl ?_
  refine wp_1 rfl ?_
  refine wp_get rfl (ss_in z51 rfl) rfl rfl ?_
  refine wp_callV rfl rfl (ss_out z55 rfl) rfl rfl rfl ?_
  iterate 2 refine wp_1 rfl ?_
  refine wp_get rfl (ss_out z55 rfl) rfl rfl ?_
  iterate 2 refine wp_1 rfl ?_
  refine wp_put rfl (ss_out z55 rfl) rfl rfl rfl ?_
  refine wp_1 rfl ?_
  refine wp_get rfl (ss_in z55 rfl) rfl rfl ?_
  iterate 2 refine wp_1 rfl ?_
  refine wp_get rfl (ss_in z55 rfl) rfl rfl ?_
  iterate 4 refine wp_1 rfl ?_
  refine wp_put rfl (ss_in z55 rfl) rfl rfl rfl ?_
  iterate 4 refine wp_1 rfl ?_
  refine wp_r rfl ?_
  refine wp_r rfl ?_
  refine wp_1 rfl ?_
  refine wp_lv (lv' := [(1, .int 2), (0, .ref 42)]) rfl ?_
  iterate 3 refine wp_1 rfl ?_
  refine wp_get rfl (ss_in z42 rfl) rfl rfl ?_
  refine wp_alen rfl (ss_out z43 rfl) ?_
  iterate 2 refine wp_1 rfl ?_
  refine wp_get rfl (ss_in z42 rfl) rfl rfl ?_
  refine wp_1 rfl ?_
  refine wp_aald rfl (ss_out z43 rfl) rfl rfl ?_
  refine wp_1 rfl ?_
  refine wp_put rfl (ss_out z56 rfl) rfl rfl rfl ?_
  refine wp_1 rfl ?_
  refine wp_get rfl (ss_in z42 rfl) rfl rfl ?_
  refine wp_1 rfl ?_
  refine wp_aald rfl (ss_out z43 rfl) rfl rfl ?_
  refine wp_callV rfl rfl (ss_in z56 rfl) rfl rfl rfl ?_
  iterate 2 refine wp_1 rfl ?_
  refine wp_put rfl (ss_in z56 rfl) rfl rfl rfl ?_
  iterate 2 refine wp_1 rfl ?_
  refine wp_put rfl (ss_in z56 rfl) rfl rfl rfl ?_
  refine wp_1 rfl ?_
  refine wp_get rfl (ss_in z56 rfl) rfl rfl ?_
  refine wp_callV rfl rfl (ss_out z57 rfl) rfl rfl rfl ?_
  iterate 2 refine wp_1 rfl ?_
  refine wp_get rfl (ss_out z57 rfl) rfl rfl ?_
  iterate 2 refine wp_1 rfl ?_
  refine wp_put rfl (ss_out z57 rfl) rfl rfl rfl ?_
  refine wp_1 rfl ?_
  refine wp_get rfl (ss_in z57 rfl) rfl rfl ?_
  iterate 2 refine wp_1 rfl ?_
  refine wp_get rfl (ss_in z57 rfl) rfl rfl ?_
  iterate 4 refine wp_1 rfl ?_
  refine wp_put rfl (ss_in z57 rfl) rfl rfl rfl ?_
  iterate 4 refine wp_1 rfl ?_
  refine wp_r rfl ?_
  iterate 2 refine wp_1 rfl ?_
  refine wp_put rfl (ss_in z56 rfl) rfl rfl rfl ?_
  iterate 2 refine wp_1 rfl ?_
  refine wp_put rfl (ss_in z56 rfl) rfl rfl rfl ?_
  refine wp_1 rfl ?_
  refine wp_get rfl (ss_in z56 rfl) rfl rfl ?_
  refine wp_callV rfl rfl (ss_out z60 rfl) rfl rfl rfl ?_
  iterate 2 refine wp_1 rfl ?_
  refine wp_get rfl (ss_out z60 rfl) rfl rfl ?_
  iterate 2 refine wp_1 rfl ?_
  refine wp_put rfl (ss_out z60 rfl) rfl rfl rfl ?_
  refine wp_1 rfl ?_
  refine wp_get rfl (ss_in z60 rfl) rfl rfl ?_
  iterate 2 refine wp_1 rfl ?_
  refine wp_get rfl (ss_in z60 rfl) rfl rfl ?_
  iterate 4 refine wp_1 rfl ?_
  refine wp_put rfl (ss_in z60 rfl) rfl rfl rfl ?_
  iterate 4 refine wp_1 rfl ?_
  refine wp_r rfl ?_
  refine wp_r rfl ?_
  refine wp_1 rfl ?_
  refine wp_lv (lv' := [(1, .int 3), (0, .ref 42)]) rfl ?_
  iterate 3 refine wp_1 rfl ?_
  refine wp_get rfl (ss_in z42 rfl) rfl rfl ?_
  refine wp_alen rfl (ss_out z43 rfl) ?_
  iterate 2 refine wp_1 rfl ?_
  refine wp_get rfl (ss_in z42 rfl) rfl rfl ?_
  refine wp_1 rfl ?_
  refine wp_aald rfl (ss_out z43 rfl) rfl rfl ?_
  refine wp_1 rfl ?_
  refine wp_put rfl (ss_out z61 rfl) rfl rfl rfl ?_
  refine wp_1 rfl ?_
  refine wp_get rfl (ss_in z42 rfl) rfl rfl ?_
  refine wp_1 rfl ?_
  refine wp_aald rfl (ss_out z43 rfl) rfl rfl ?_
  refine wp_callV rfl rfl (ss_in z61 rfl) rfl rfl rfl ?_
  iterate 2 refine wp_1 rfl ?_
  refine wp_put rfl (ss_in z61 rfl) rfl rfl rfl ?_
  iterate 2 refine wp_1 rfl ?_
  refine wp_put rfl (ss_in z61 rfl) rfl rfl rfl ?_
  refine wp_1 rfl ?_
  refine wp_get rfl (ss_in z61 rfl) rfl rfl ?_
  refine wp_callV rfl rfl (ss_out z62 rfl) rfl rfl rfl ?_
  iterate 2 refine wp_1 rfl ?_
  refine wp_get rfl (ss_out z62 rfl) rfl rfl ?_
  iterate 2 refine wp_1 rfl ?_
  refine wp_put rfl (ss_out z62 rfl) rfl rfl rfl ?_
  refine wp_1 rfl ?_
  refine wp_get rfl (ss_in z62 rfl) rfl rfl ?_
  iterate 2 refine wp_1 rfl ?_
  refine wp_get rfl (ss_in z62 rfl) rfl rfl ?_
  iterate 4 refine wp_1 rfl ?_
  refine wp_put rfl (ss_in z62 rfl) rfl rfl rfl ?_
  iterate 4 refine wp_1 rfl ?_
  refine wp_r rfl ?_
  iterate 2 refine wp_1 rfl ?_
  refine wp_put rfl (ss_in z61 rfl) rfl rfl rfl ?_
  iterate 2 refine wp_1 rfl ?_
  refine wp_put rfl (ss_in z61 rfl) rfl rfl rfl ?_
  refine wp_1 rfl ?_
  refine wp_get rfl (ss_in z61 rfl) rfl rfl ?_
  refine wp_callV rfl rfl (ss_out z65 rfl) rfl rfl rfl ?_
  iterate 2 refine wp_1 rfl ?_
  refine wp_get rfl (ss_out z65 rfl) rfl rfl ?_
  iterate 2 refine wp_1 rfl ?_
  refine wp_put rfl (ss_out z65 rfl) rfl rfl rfl ?_
  refine wp_1 rfl ?_
  refine wp_get rfl (ss_in z65 rfl) rfl rfl ?_
  iterate 2 refine wp_1 rfl ?_
  refine wp_get rfl (ss_in z65 rfl) rfl rfl ?_
  iterate 4 refine wp_1 rfl ?_
  refine wp_put rfl (ss_in z65 rfl) rfl rfl rfl ?_
  iterate 4 refine wp_1 rfl ?_
  refine wp_r rfl ?_
  refine wp_r rfl ?_
  refine wp_1 rfl ?_
  refine wp_lv (lv' := [(1, .int 4), (0, .ref 42)]) rfl ?_
  iterate 3 refine wp_1 rfl ?_
  refine wp_get rfl (ss_in z42 rfl) rfl rfl ?_
  refine wp_alen rfl (ss_out z43 rfl) ?_
  refine wp_1 rfl ?_
  refine wp_r rfl ?_
  refine wp_1 rfl ?_
  refine wp_lv (lv' := [(2, .int 2), (0, .ref 0), (1, .int n)]) rfl ?_
  iterate 5 refine wp_1 rfl ?_
  refine wp_get rfl (ss_in z0 rfl) rfl rfl ?_
  refine wp_1 rfl ?_
  refine wp_aald rfl (ss_out z2 rfl) rfl rfl ?_
  refine wp_callV rfl rfl (ss_out z66 rfl) rfl rfl rfl ?_
  iterate 2 refine wp_1 rfl ?_
  refine wp_put rfl (ss_out z66 rfl) rfl rfl rfl ?_
  iterate 2 refine wp_1 rfl ?_
  refine wp_put rfl (ss_in z66 rfl) rfl rfl rfl ?_
  iterate 4 refine wp_1 rfl ?_
  refine wp_get rfl (ss_in z66 rfl) rfl rfl ?_
  refine wp_alen rfl (ss_out z67 rfl) ?_
  iterate 2 refine wp_1 rfl ?_
  refine wp_get rfl (ss_in z66 rfl) rfl rfl ?_
  refine wp_1 rfl ?_
  refine wp_aald rfl (ss_out z67 rfl) rfl rfl ?_
  refine wp_1 rfl ?_
  refine wp_put rfl (ss_out z75 rfl) rfl rfl rfl ?_
  refine wp_1 rfl ?_
  refine wp_get rfl (ss_in z66 rfl) rfl rfl ?_
  refine wp_1 rfl ?_
  refine wp_aald rfl (ss_out z67 rfl) rfl rfl ?_
  refine wp_callV rfl rfl (ss_in z75 rfl) rfl rfl rfl ?_
  iterate 2 refine wp_1 rfl ?_
  refine wp_put rfl (ss_in z75 rfl) rfl rfl rfl ?_
  iterate 2 refine wp_1 rfl ?_
  refine wp_put rfl (ss_in z75 rfl) rfl rfl rfl ?_
  refine wp_1 rfl ?_
  refine wp_get rfl (ss_in z75 rfl) rfl rfl ?_
  refine wp_callV rfl rfl (ss_out z76 rfl) rfl rfl rfl ?_
  iterate 2 refine wp_1 rfl ?_
  refine wp_get rfl (ss_out z76 rfl) rfl rfl ?_
  iterate 2 refine wp_1 rfl ?_
  refine wp_put rfl (ss_out z76 rfl) rfl rfl rfl ?_
  refine wp_1 rfl ?_
  refine wp_get rfl (ss_in z76 rfl) rfl rfl ?_
  iterate 2 refine wp_1 rfl ?_
  refine wp_get rfl (ss_in z76 rfl) rfl rfl ?_
  iterate 4 refine wp_1 rfl ?_
  refine wp_put rfl (ss_in z76 rfl) rfl rfl rfl ?_
  iterate 4 refine wp_1 rfl ?_
  refine wp_r rfl ?_
  iterate 2 refine wp_1 rfl ?_
  refine wp_put rfl (ss_in z75 rfl) rfl rfl rfl ?_
  iterate 2 refine wp_1 rfl ?_
  refine wp_put rfl (ss_in z75 rfl) rfl rfl rfl ?_
  refine wp_1 rfl ?_
  refine wp_get rfl (ss_in z75 rfl) rfl rfl ?_
  refine wp_callV rfl rfl (ss_out z79 rfl) rfl rfl rfl ?_
  iterate 2 refine wp_1 rfl ?_
  refine wp_get rfl (ss_out z79 rfl) rfl rfl ?_
  iterate 2 refine wp_1 rfl ?_
  refine wp_put rfl (ss_out z79 rfl) rfl rfl rfl ?_
  refine wp_1 rfl ?_
  refine wp_get rfl (ss_in z79 rfl) rfl rfl ?_
  iterate 2 refine wp_1 rfl ?_
  refine wp_get rfl (ss_in z79 rfl) rfl rfl ?_
  iterate 4 refine wp_1 rfl ?_
  refine wp_put rfl (ss_in z79 rfl) rfl rfl rfl ?_
  iterate 4 refine wp_1 rfl ?_
  refine wp_r rfl ?_
  refine wp_r rfl ?_
  refine wp_1 rfl ?_
  refine wp_lv (lv' := [(1, .int 2), (0, .ref 66)]) rfl ?_
  iterate 3 refine wp_1 rfl ?_
  refine wp_get rfl (ss_in z66 rfl) rfl rfl ?_
  refine wp_alen rfl (ss_out z67 rfl) ?_
  iterate 2 refine wp_1 rfl ?_
  refine wp_get rfl (ss_in z66 rfl) rfl rfl ?_
  refine wp_1 rfl ?_
  refine wp_aald rfl (ss_out z67 rfl) rfl rfl ?_
  refine wp_1 rfl ?_
  refine wp_put rfl (ss_out z80 rfl) rfl rfl rfl ?_
  refine wp_1 rfl ?_
  refine wp_get rfl (ss_in z66 rfl) rfl rfl ?_
  refine wp_1 rfl ?_
  refine wp_aald rfl (ss_out z67 rfl) rfl rfl ?_
  refine wp_callV rfl rfl (ss_in z80 rfl) rfl rfl rfl ?_
  iterate 2 refine wp_1 rfl ?_
  refine wp_put rfl (ss_in z80 rfl) rfl rfl rfl ?_
  iterate 2 refine wp_1 rfl ?_
  refine wp_put rfl (ss_in z80 rfl) rfl rfl rfl ?_
  refine wp_1 rfl ?_
  refine wp_get rfl (ss_in z80 rfl) rfl rfl ?_
  refine wp_callV rfl rfl (ss_out z81 rfl) rfl rfl rfl ?_
  iterate 2 refine wp_1 rfl ?_
  refine wp_get rfl (ss_out z81 rfl) rfl rfl ?_
  iterate 2 refine wp_1 rfl ?_
  refine wp_put rfl (ss_out z81 rfl) rfl rfl rfl ?_
  refine wp_1 rfl ?_
  refine wp_get rfl (ss_in z81 rfl) rfl rfl ?_
  iterate 2 refine wp_1 rfl ?_
  refine wp_get rfl (ss_in z81 rfl) rfl rfl ?_
  iterate 4 refine wp_1 rfl ?_
  refine wp_put rfl (ss_in z81 rfl) rfl rfl rfl ?_
  iterate 4 refine wp_1 rfl ?_
  refine wp_r rfl ?_
  iterate 2 refine wp_1 rfl ?_
  refine wp_put rfl (ss_in z80 rfl) rfl rfl rfl ?_
  iterate 2 refine wp_1 rfl ?_
  refine wp_put rfl (ss_in z80 rfl) rfl rfl rfl ?_
  refine wp_1 rfl ?_
  refine wp_get rfl (ss_in z80 rfl) rfl rfl ?_
  refine wp_callV rfl rfl (ss_out z84 rfl) rfl rfl rfl ?_
  iterate 2 refine wp_1 rfl ?_
  refine wp_get rfl (ss_out z84 rfl) rfl rfl ?_
  iterate 2 refine wp_1 rfl ?_
  refine wp_put rfl (ss_out z84 rfl) rfl rfl rfl ?_
  refine wp_1 rfl ?_
  refine wp_get rfl (ss_in z84 rfl) rfl rfl ?_
  iterate 2 refine wp_1 rfl ?_
  refine wp_get rfl (ss_in z84 rfl) rfl rfl ?_
  iterate 4 refine wp_1 rfl ?_
  refine wp_put rfl (ss_in z84 rfl) rfl rfl rfl ?_
  iterate 4 refine wp_1 rfl ?_
  refine wp_r rfl ?_
  refine wp_r rfl ?_
  refine wp_1 rfl ?_
  refine wp_lv (lv' := [(1, .int 3), (0, .ref 66)]) rfl ?_
  iterate 3 refine wp_1 rfl ?_
  refine wp_get rfl (ss_in z66 rfl) rfl rfl ?_
  refine wp_alen rfl (ss_out z67 rfl) ?_
  iterate 2 refine wp_1 rfl ?_
  refine wp_get rfl (ss_in z66 rfl) rfl rfl ?_
  refine wp_1 rfl ?_
  refine wp_aald rfl (ss_out z67 rfl) rfl rfl ?_
  refine wp_1 rfl ?_
  refine wp_put rfl (ss_out z85 rfl) rfl rfl rfl ?_
  refine wp_1 rfl ?_
  refine wp_get rfl (ss_in z66 rfl) rfl rfl ?_
  refine wp_1 rfl ?_
  refine wp_aald rfl (ss_out z67 rfl) rfl rfl ?_
  refine wp_callV rfl rfl (ss_in z85 rfl) rfl rfl rfl ?_
  iterate 2 refine wp_1 rfl ?_
  refine wp_put rfl (ss_in z85 rfl) rfl rfl rfl ?_
  iterate 2 refine wp_1 rfl ?_
  refine wp_put rfl (ss_in z85 rfl) rfl rfl rfl ?_
  refine wp_1 rfl ?_
  refine wp_get rfl (ss_in z85 rfl) rfl rfl ?_
  refine wp_callV rfl rfl (ss_out z86 rfl) rfl rfl rfl ?_
  iterate 2 refine wp_1 rfl ?_
  refine wp_get rfl (ss_out z86 rfl) rfl rfl ?_
  iterate 2 refine wp_1 rfl ?_
  refine wp_put rfl (ss_out z86 rfl) rfl rfl rfl ?_
  refine wp_1 rfl ?_
  refine wp_get rfl (ss_in z86 rfl) rfl rfl ?_
  iterate 2 refine wp_1 rfl ?_
  refine wp_get rfl (ss_in z86 rfl) rfl rfl ?_
  iterate 4 refine wp_1 rfl ?_
  refine wp_put rfl (ss_in z86 rfl) rfl rfl rfl ?_
  iterate 4 refine wp_1 rfl ?_
  refine wp_r rfl ?_
  iterate 2 refine wp_1 rfl ?_
  refine wp_put rfl (ss_in z85 rfl) rfl rfl rfl ?_
  iterate 2 refine wp_1 rfl ?_
  refine wp_put rfl (ss_in z85 rfl) rfl rfl rfl ?_
  refine wp_1 rfl ?_
  refine wp_get rfl (ss_in z85 rfl) rfl rfl ?_
  refine wp_callV rfl rfl (ss_out z89 rfl) rfl rfl rfl ?_
  iterate 2 refine wp_1 rfl ?_
  refine wp_get rfl (ss_out z89 rfl) rfl rfl ?_
  iterate 2 refine wp_1 rfl ?_
  refine wp_put rfl (ss_out z89 rfl) rfl rfl rfl ?_
  refine wp_1 rfl ?_
  refine wp_get rfl (ss_in z89 rfl) rfl rfl ?_
  iterate 2 refine wp_1 rfl ?_
  refine wp_get rfl (ss_in z89 rfl) rfl rfl ?_
  iterate 4 refine wp_1 rfl ?_
  refine wp_put rfl (ss_in z89 rfl) rfl rfl rfl ?_
  iterate 4 refine wp_1 rfl ?_
  refine wp_r rfl ?_
  refine wp_r rfl ?_
  refine wp_1 rfl ?_
  refine wp_lv (lv' := [(1, .int 4), (0, .ref 66)]) rfl ?_
  iterate 3 refine wp_1 rfl ?_
  refine wp_get rfl (ss_in z66 rfl) rfl rfl ?_
  refine wp_alen rfl (ss_out z67 rfl) ?_
  refine wp_1 rfl ?_
  refine wp_r rfl ?_
  refine wp_1 rfl ?_
  refine wp_lv (lv' := [(2, .int 3), (0, .ref 0), (1, .int n)]) rfl ?_
  iterate 5 refine wp_1 rfl ?_
  refine wp_get rfl (ss_in z0 rfl) rfl rfl ?_
  refine wp_1 rfl ?_
  refine wp_aald rfl (ss_out z2 rfl) rfl rfl ?_
  refine wp_callV rfl rfl (ss_out z90 rfl) rfl rfl rfl ?_
  iterate 2 refine wp_1 rfl ?_
  refine wp_put rfl (ss_out z90 rfl) rfl rfl rfl ?_
  iterate 2 refine wp_1 rfl ?_
  refine wp_put rfl (ss_in z90 rfl) rfl rfl rfl ?_
  iterate 4 refine wp_1 rfl ?_
  refine wp_get rfl (ss_in z90 rfl) rfl rfl ?_
  refine wp_alen rfl (ss_out z91 rfl) ?_
  iterate 2 refine wp_1 rfl ?_
  refine wp_get rfl (ss_in z90 rfl) rfl rfl ?_
  refine wp_1 rfl ?_
  refine wp_aald rfl (ss_out z91 rfl) rfl rfl ?_
  refine wp_1 rfl ?_
  refine wp_put rfl (ss_out z99 rfl) rfl rfl rfl ?_
  refine wp_1 rfl ?_
  refine wp_get rfl (ss_in z90 rfl) rfl rfl ?_
  refine wp_1 rfl ?_
  refine wp_aald rfl (ss_out z91 rfl) rfl rfl ?_
  refine wp_callV rfl rfl (ss_in z99 rfl) rfl rfl rfl ?_
  iterate 2 refine wp_1 rfl ?_
  refine wp_put rfl (ss_in z99 rfl) rfl rfl rfl ?_
  iterate 2 refine wp_1 rfl ?_
  refine wp_put rfl (ss_in z99 rfl) rfl rfl rfl ?_
  refine wp_1 rfl ?_
  refine wp_get rfl (ss_in z99 rfl) rfl rfl ?_
  refine wp_callV rfl rfl (ss_out z100 rfl) rfl rfl rfl ?_
  iterate 2 refine wp_1 rfl ?_
  refine wp_get rfl (ss_out z100 rfl) rfl rfl ?_
  iterate 2 refine wp_1 rfl ?_
  refine wp_put rfl (ss_out z100 rfl) rfl rfl rfl ?_
  refine wp_1 rfl ?_
  refine wp_get rfl (ss_in z100 rfl) rfl rfl ?_
  iterate 2 refine wp_1 rfl ?_
  refine wp_get rfl (ss_in z100 rfl) rfl rfl ?_
  iterate 4 refine wp_1 rfl ?_
  refine wp_put rfl (ss_in z100 rfl) rfl rfl rfl ?_
  iterate 4 refine wp_1 rfl ?_
  refine wp_r rfl ?_
  iterate 2 refine wp_1 rfl ?_
  refine wp_put rfl (ss_in z99 rfl) rfl rfl rfl ?_
  iterate 2 refine wp_1 rfl ?_
  refine wp_put rfl (ss_in z99 rfl) rfl rfl rfl ?_
  refine wp_1 rfl ?_
  refine wp_get rfl (ss_in z99 rfl) rfl rfl ?_
  refine wp_callV rfl rfl (ss_out z103 rfl) rfl rfl rfl ?_
  iterate 2 refine wp_1 rfl ?_
  refine wp_get rfl (ss_out z103 rfl) rfl rfl ?_
  iterate 2 refine wp_1 rfl ?_
  refine wp_put rfl (ss_out z103 rfl) rfl rfl rfl ?_
  refine wp_1 rfl ?_
  refine wp_get rfl (ss_in z103 rfl) rfl rfl ?_
  iterate 2 refine wp_1 rfl ?_
  refine wp_get rfl (ss_in z103 rfl) rfl rfl ?_
  iterate 4 refine wp_1 rfl ?_
  refine wp_put rfl (ss_in z103 rfl) rfl rfl rfl ?_
  iterate 4 refine wp_1 rfl ?_
  refine wp_r rfl ?_
  refine wp_r rfl ?_
  refine wp_1 rfl ?_
  refine wp_lv (lv' := [(1, .int 2), (0, .ref 90)]) rfl ?_
  iterate 3 refine wp_1 rfl ?_
  refine wp_get rfl (ss_in z90 rfl) rfl rfl ?_
  refine wp_alen rfl (ss_out z91 rfl) ?_
  iterate 2 refine wp_1 rfl ?_
  refine wp_get rfl (ss_in z90 rfl) rfl rfl ?_
  refine wp_1 rfl ?_
  refine wp_aald rfl (ss_out z91 rfl) rfl rfl ?_
  refine wp_1 rfl ?_
  refine wp_put rfl (ss_out z104 rfl) rfl rfl rfl ?_
  refine wp_1 rfl ?_
  refine wp_get rfl (ss_in z90 rfl) rfl rfl ?_
  refine wp_1 rfl ?_
  refine wp_aald rfl (ss_out z91 rfl) rfl rfl ?_
  refine wp_callV rfl rfl (ss_in z104 rfl) rfl rfl rfl ?_
  iterate 2 refine wp_1 rfl ?_
  refine wp_put rfl (ss_in z104 rfl) rfl rfl rfl ?_
  iterate 2 refine wp_1 rfl ?_
  refine wp_put rfl (ss_in z104 rfl) rfl rfl rfl ?_
  refine wp_1 rfl ?_
  refine wp_get rfl (ss_in z104 rfl) rfl rfl ?_
  refine wp_callV rfl rfl (ss_out z105 rfl) rfl rfl rfl ?_
  iterate 2 refine wp_1 rfl ?_
  refine wp_get rfl (ss_out z105 rfl) rfl rfl ?_
  iterate 2 refine wp_1 rfl ?_
  refine wp_put rfl (ss_out z105 rfl) rfl rfl rfl ?_
  refine wp_1 rfl ?_
  refine wp_get rfl (ss_in z105 rfl) rfl rfl ?_
  iterate 2 refine wp_1 rfl ?_
  refine wp_get rfl (ss_in z105 rfl) rfl rfl ?_
  iterate 4 refine wp_1 rfl ?_
  refine wp_put rfl (ss_in z105 rfl) rfl rfl rfl ?_
  iterate 4 refine wp_1 rfl ?_
  refine wp_r rfl ?_
  iterate 2 refine wp_1 rfl ?_
  refine wp_put rfl (ss_in z104 rfl) rfl rfl rfl ?_
  iterate 2 refine wp_1 rfl ?_
  refine wp_put rfl (ss_in z104 rfl) rfl rfl rfl ?_
  refine wp_1 rfl ?_
  refine wp_get rfl (ss_in z104 rfl) rfl rfl ?_
  refine wp_callV rfl rfl (ss_out z108 rfl) rfl rfl rfl ?_
  iterate 2 refine wp_1 rfl ?_
  refine wp_get rfl (ss_out z108 rfl) rfl rfl ?_
  iterate 2 refine wp_1 rfl ?_
  refine wp_put rfl (ss_out z108 rfl) rfl rfl rfl ?_
  refine wp_1 rfl ?_
  refine wp_get rfl (ss_in z108 rfl) rfl rfl ?_
  iterate 2 refine wp_1 rfl ?_
  refine wp_get rfl (ss_in z108 rfl) rfl rfl ?_
  iterate 4 refine wp_1 rfl ?_
  refine wp_put rfl (ss_in z108 rfl) rfl rfl rfl ?_
  iterate 4 refine wp_1 rfl ?_
  refine wp_r rfl ?_
  refine wp_r rfl ?_
  refine wp_1 rfl ?_
  refine wp_lv (lv' := [(1, .int 3), (0, .ref 90)]) rfl ?_
  iterate 3 refine wp_1 rfl ?_
  refine wp_get rfl (ss_in z90 rfl) rfl rfl ?_
  refine wp_alen rfl (ss_out z91 rfl) ?_
  iterate 2 refine wp_1 rfl ?_
  refine wp_get rfl (ss_in z90 rfl) rfl rfl ?_
  refine wp_1 rfl ?_
  refine wp_aald rfl (ss_out z91 rfl) rfl rfl ?_
  refine wp_1 rfl ?_
  refine wp_put rfl (ss_out z109 rfl) rfl rfl rfl ?_
  refine wp_1 rfl ?_
  refine wp_get rfl (ss_in z90 rfl) rfl rfl ?_
  refine wp_1 rfl ?_
  refine wp_aald rfl (ss_out z91 rfl) rfl rfl ?_
  refine wp_callV rfl rfl (ss_in z109 rfl) rfl rfl rfl ?_
  iterate 2 refine wp_1 rfl ?_
  refine wp_put rfl (ss_in z109 rfl) rfl rfl rfl ?_
  iterate 2 refine wp_1 rfl ?_
  refine wp_put rfl (ss_in z109 rfl) rfl rfl rfl ?_
  refine wp_1 rfl ?_
  refine wp_get rfl (ss_in z109 rfl) rfl rfl ?_
  refine wp_callV rfl rfl (ss_out z110 rfl) rfl rfl rfl ?_
  iterate 2 refine wp_1 rfl ?_
  refine wp_get rfl (ss_out z110 rfl) rfl rfl ?_
  iterate 2 refine wp_1 rfl ?_
  refine wp_put rfl (ss_out z110 rfl) rfl rfl rfl ?_
  refine wp_1 rfl ?_
  refine wp_get rfl (ss_in z110 rfl) rfl rfl ?_
  iterate 2 refine wp_1 rfl ?_
  refine wp_get rfl (ss_in z110 rfl) rfl rfl ?_
  iterate 4 refine wp_1 rfl ?_
  refine wp_put rfl (ss_in z110 rfl) rfl rfl rfl ?_
  iterate 4 refine wp_1 rfl ?_
  refine wp_r rfl ?_
  iterate 2 refine wp_1 rfl ?_
  refine wp_put rfl (ss_in z109 rfl) rfl rfl rfl ?_
  iterate 2 refine wp_1 rfl ?_
  refine wp_put rfl (ss_in z109 rfl) rfl rfl rfl ?_
  refine wp_1 rfl ?_
  refine wp_get rfl (ss_in z109 rfl) rfl rfl ?_
  refine wp_callV rfl rfl (ss_out z113 rfl) rfl rfl rfl ?_
  iterate 2 refine wp_1 rfl ?_
  refine wp_get rfl (ss_out z113 rfl) rfl rfl ?_
  iterate 2 refine wp_1 rfl ?_
  refine wp_put rfl (ss_out z113 rfl) rfl rfl rfl ?_
  refine wp_1 rfl ?_
  refine wp_get rfl (ss_in z113 rfl) rfl rfl ?_
  iterate 2 refine wp_1 rfl ?_
  refine wp_get rfl (ss_in z113 rfl) rfl rfl ?_
  iterate 4 refine wp_1 rfl ?_
  refine wp_put rfl (ss_in z113 rfl) rfl rfl rfl ?_
  iterate 4 refine wp_1 rfl ?_
  refine wp_r rfl ?_
  refine wp_r rfl ?_
  refine wp_1 rfl ?_
  refine wp_lv (lv' := [(1, .int 4), (0, .ref 90)]) rfl ?_
  iterate 3 refine wp_1 rfl ?_
  refine wp_get rfl (ss_in z90 rfl) rfl rfl ?_
  refine wp_alen rfl (ss_out z91 rfl) ?_
  refine wp_1 rfl ?_
  refine wp_r rfl ?_
  refine wp_1 rfl ?_
  refine wp_lv (lv' := [(2, .int 4), (0, .ref 0), (1, .int n)]) rfl ?_
  iterate 5 refine wp_1 rfl ?_
  refine wp_get rfl (ss_in z0 rfl) rfl rfl ?_
  refine wp_1 rfl ?_
  refine wp_callV rfl rfl (ss_out z11 rfl) rfl rfl rfl ?_
  iterate 5 refine wp_1 rfl ?_
  refine wp_pc (if_pos b1) ?_
  refine wp_1 rfl ?_
  refine wp_get rfl (ss_out z11 rfl) rfl rfl ?_
  refine wp_callV rfl rfl (ss_out z12 rfl) rfl rfl rfl ?_
  iterate 2 refine wp_1 rfl ?_
  refine wp_get rfl (ss_out z12 rfl) rfl rfl ?_
  iterate 2 refine wp_1 rfl ?_
  refine wp_put rfl (ss_out z12 rfl) rfl rfl rfl ?_
  refine wp_1 rfl ?_
  refine wp_get rfl (ss_in z12 rfl) rfl rfl ?_
  iterate 2 refine wp_1 rfl ?_
  refine wp_get rfl (ss_in z12 rfl) rfl rfl ?_
  iterate 4 refine wp_1 rfl ?_
  refine wp_put rfl (ss_in z12 rfl) rfl rfl rfl ?_
  iterate 4 refine wp_1 rfl ?_
  refine wp_r rfl ?_
  refine wp_r rfl ?_
  refine wp_1 rfl ?_
  refine wp_callV rfl rfl (ss_in z0 rfl) rfl rfl rfl ?_
  refine wp_1 rfl ?_
  refine wp_get rfl (ss_in z0 rfl) rfl rfl ?_
  refine wp_callV rfl rfl (ss_out z4 rfl) rfl rfl rfl ?_
  iterate 2 refine wp_1 rfl ?_
  refine wp_get rfl (ss_out z4 rfl) rfl rfl ?_
  iterate 2 refine wp_1 rfl ?_
  refine wp_put rfl (ss_out z4 rfl) rfl rfl rfl ?_
  refine wp_1 rfl ?_
  refine wp_get rfl (ss_in z4 rfl) rfl rfl ?_
  iterate 2 refine wp_1 rfl ?_
  refine wp_get rfl (ss_in z4 rfl) rfl rfl ?_
  iterate 4 refine wp_1 rfl ?_
  refine wp_put rfl (ss_in z4 rfl) rfl rfl rfl ?_
  iterate 4 refine wp_1 rfl ?_
  refine wp_r rfl ?_
  refine wp_1 rfl ?_
  refine wp_get rfl (ss_in z0 rfl) rfl rfl ?_
  refine wp_callV rfl rfl (ss_out z5 rfl) rfl rfl rfl ?_
  iterate 2 refine wp_1 rfl ?_
  refine wp_get rfl (ss_out z5 rfl) rfl rfl ?_
  iterate 2 refine wp_1 rfl ?_
  refine wp_put rfl (ss_out z5 rfl) rfl rfl rfl ?_
  refine wp_1 rfl ?_
  refine wp_get rfl (ss_in z5 rfl) rfl rfl ?_
  iterate 2 refine wp_1 rfl ?_
  refine wp_get rfl (ss_in z5 rfl) rfl rfl ?_
  iterate 4 refine wp_1 rfl ?_
  refine wp_put rfl (ss_in z5 rfl) rfl rfl rfl ?_
  iterate 4 refine wp_1 rfl ?_
  refine wp_r rfl ?_
  refine wp_1 rfl ?_
  refine wp_get rfl (ss_in z0 rfl) rfl rfl ?_
  refine wp_callV rfl rfl (ss_out z6 rfl) rfl rfl rfl ?_
  iterate 2 refine wp_1 rfl ?_
  refine wp_get rfl (ss_out z6 rfl) rfl rfl ?_
  iterate 2 refine wp_1 rfl ?_
  refine wp_put rfl (ss_out z6 rfl) rfl rfl rfl ?_
  refine wp_1 rfl ?_
  refine wp_get rfl (ss_in z6 rfl) rfl rfl ?_
  iterate 2 refine wp_1 rfl ?_
  refine wp_get rfl (ss_in z6 rfl) rfl rfl ?_
  iterate 4 refine wp_1 rfl ?_
  refine wp_put rfl (ss_in z6 rfl) rfl rfl rfl ?_
  iterate 4 refine wp_1 rfl ?_
  refine wp_r rfl ?_
  refine wp_1 rfl ?_
  refine wp_get rfl (ss_in z0 rfl) rfl rfl ?_
  refine wp_callV rfl rfl (ss_out z7 rfl) rfl rfl rfl ?_
  iterate 2 refine wp_1 rfl ?_
  refine wp_get rfl (ss_out z7 rfl) rfl rfl ?_
  iterate 2 refine wp_1 rfl ?_
  refine wp_put rfl (ss_out z7 rfl) rfl rfl rfl ?_
  refine wp_1 rfl ?_
  refine wp_get rfl (ss_in z7 rfl) rfl rfl ?_
  iterate 2 refine wp_1 rfl ?_
  refine wp_get rfl (ss_in z7 rfl) rfl rfl ?_
  iterate 4 refine wp_1 rfl ?_
  refine wp_put rfl (ss_in z7 rfl) rfl rfl rfl ?_
  iterate 4 refine wp_1 rfl ?_
  refine wp_r rfl ?_
  refine wp_1 rfl ?_
  refine wp_get rfl (ss_in z0 rfl) rfl rfl ?_
  refine wp_callV rfl rfl (ss_out z8 rfl) rfl rfl rfl ?_
  iterate 2 refine wp_1 rfl ?_
  refine wp_get rfl (ss_out z8 rfl) rfl rfl ?_
  iterate 2 refine wp_1 rfl ?_
  refine wp_put rfl (ss_out z8 rfl) rfl rfl rfl ?_
  refine wp_1 rfl ?_
  refine wp_get rfl (ss_in z8 rfl) rfl rfl ?_
  iterate 2 refine wp_1 rfl ?_
  refine wp_get rfl (ss_in z8 rfl) rfl rfl ?_
  iterate 4 refine wp_1 rfl ?_
  refine wp_put rfl (ss_in z8 rfl) rfl rfl rfl ?_
  iterate 4 refine wp_1 rfl ?_
  refine wp_r rfl ?_
  iterate 2 refine wp_1 rfl ?_
  refine wp_put rfl (ss_in z0 rfl) rfl rfl rfl ?_
  refine wp_r rfl ?_
  refine wp_1 rfl ?_
  refine wp_callV rfl rfl (ss_in z0 rfl) rfl rfl rfl ?_
  iterate 4 refine wp_1 rfl ?_
  refine wp_get rfl (ss_in z0 rfl) rfl rfl ?_
  refine wp_get rfl (ss_out z11 rfl) rfl rfl ?_
  refine wp_callV rfl rfl (ss_out z13 rfl) rfl rfl rfl ?_
  refine wp_1 rfl ?_
  refine wp_get rfl (ss_out z13 rfl) rfl rfl ?_
  refine wp_r rfl ?_
  refine wp_1 rfl ?_
  refine wp_r rfl ?_
  refine wp_1 rfl ?_
  refine wp_get rfl (ss_in z0 rfl) rfl rfl ?_
  refine wp_r rfl ?_
  refine wp_1 rfl ?_
  refine wp_last rfl (ss_out z200 rfl) rfl ?_
  iterate 2 refine wp_1 rfl ?_
  refine wp_r rfl (hK _ x_ss_len (x_inv_c (ss_out z114 rfl) <| x_inv_c (ss_out z115 rfl) <| x_inv_c (ss_out z136 rfl) <| x_inv_c (ss_out z139 rfl) <| x_inv_c (ss_out z140 rfl) <| x_inv_c (ss_out z144 rfl) <| x_inv_c (ss_out z148 rfl) <| x_inv_c (ss_out z152 rfl) <| x_inv_c (ss_out z155 rfl) <| x_inv_c (ss_out z156 rfl) <| x_inv_c (ss_out z160 rfl) <| x_inv_c (ss_out z164 rfl) <| x_inv_c (ss_out z168 rfl) <| x_inv_c (ss_out z171 rfl) <| x_inv_c (ss_out z172 rfl) <| x_inv_c (ss_out z176 rfl) <| x_inv_c (ss_out z180 rfl) <| x_inv_c (ss_out z184 rfl) <| x_inv_c (ss_out z187 rfl) <| x_inv_c (ss_out z188 rfl) <| x_inv_c (ss_out z192 rfl) <| x_inv_c (ss_out z196 rfl) <| x_inv_c (ss_in z200 rfl) <| x_inv_n))
set_option maxHeartbeats 4000000 in
theorem cr_Hp {h : xH} {n : Int32} {Z : Option Value → xH → Nat → Nat → Prop} (hz : x_inv h x_LC) (b0 : ¬ n < 0) (b1 : ¬ n ≤ 0) (hK : ∀ h' : xH, h'.length = h.length → x_inv h' x_LM → Z (some (.int 0)) h' 0 0) : x_WP 12 493 0 (lv_args 0 [.ref 0, .int n, .ref 200]) [] h 0 0 Z := by
  obtain ⟨z0, z2, z4, z5, z6, z7, z8, z11, z12, z13, z18, z19, z27, z28, z31, z32, z33, z36, z37, z38, z41, z42, z43, z51, z52, z55, z56, z57, z60, z61, z62, z65, z66, z67, z75, z76, z79, z80, z81, z84, z85, z86, z89, z90, z91, z99, z100, z103, z104, z105, z108, z109, z110, z113, z114, z115, z136, z139, z140, z144, z148, z152, z155, z156, z160, z164, z168, z171, z172, z176, z180, z184, z187, z188, z192, z196, z200, -⟩ := hz
  refine wp_ov ?_
  iterate 4 refine wp_1 rfl ?_
  refine wp_callV rfl rfl (ss_out z0 rfl) rfl rfl rfl ?_
  iterate 2 refine wp_1 rfl ?_
  refine wp_pc (if_neg b0) ?_
  refine wp_1 rfl ?_
  refine wp_get rfl (ss_out z0 rfl) rfl rfl ?_
  iterate 4 refine wp_1 rfl ?_
  refine wp_get rfl (ss_out z0 rfl) rfl rfl ?_
  iterate 2 refine wp_1 rfl ?_
  refine wp_put rfl (ss_out z0 rfl) rfl rfl rfl ?_
  iterate 6 refine wp_1 rfl ?_
  refine wp_get rfl (ss_in z0 rfl) rfl rfl ?_
  refine wp_1 rfl ?_
  refine wp_aald rfl (ss_out z2 rfl) rfl rfl ?_
  refine wp_callV rfl rfl (ss_out z18 rfl) rfl rfl rfl ?_
  iterate 2 refine wp_1 rfl ?_
  refine wp_put rfl (ss_out z18 rfl) rfl rfl rfl ?_
  iterate 2 refine wp_1 rfl ?_
  refine wp_put rfl (ss_in z18 rfl) rfl rfl rfl ?_
  iterate 4 refine wp_1 rfl ?_
  refine wp_get rfl (ss_in z18 rfl) rfl rfl ?_
  refine wp_alen rfl (ss_out z19 rfl) ?_
  iterate 2 refine wp_1 rfl ?_
  refine wp_get rfl (ss_in z18 rfl) rfl rfl ?_
  refine wp_1 rfl ?_
  refine wp_aald rfl (ss_out z19 rfl) rfl rfl ?_
  refine wp_1 rfl ?_
  refine wp_put rfl (ss_out z27 rfl) rfl rfl rfl ?_
  refine wp_1 rfl ?_
  refine wp_get rfl (ss_in z18 rfl) rfl rfl ?_
  refine wp_1 rfl ?_
  refine wp_aald rfl (ss_out z19 rfl) rfl rfl ?_
  refine wp_callV rfl rfl (ss_in z27 rfl) rfl rfl rfl ?_
  iterate 2 refine wp_1 rfl ?_
  refine wp_put rfl (ss_in z27 rfl) rfl rfl rfl ?_
  iterate 2 refine wp_1 rfl ?_
  refine wp_put rfl (ss_in z27 rfl) rfl rfl rfl ?_
  refine wp_1 rfl ?_
  refine wp_get rfl (ss_in z27 rfl) rfl rfl ?_
  refine wp_callV rfl rfl (ss_out z28 rfl) rfl rfl rfl ?_
  iterate 2 refine wp_1 rfl ?_
  refine wp_get rfl (ss_out z28 rfl) rfl rfl ?_
  iterate 2 refine wp_1 rfl ?_
  refine wp_put rfl (ss_out z28 rfl) rfl rfl rfl ?_
  refine wp_1 rfl ?_
  refine wp_get rfl (ss_in z28 rfl) rfl rfl ?_
  iterate 2 refine wp_1 rfl ?_
  refine wp_get rfl (ss_in z28 rfl) rfl rfl ?_
  iterate 4 refine wp_1 rfl ?_
  refine wp_put rfl (ss_in z28 rfl) rfl rfl rfl ?_
  iterate 4 refine wp_1 rfl ?_
  refine wp_r rfl ?_
  iterate 2 refine wp_1 rfl ?_
  refine wp_put rfl (ss_in z27 rfl) rfl rfl rfl ?_
  iterate 2 refine wp_1 rfl ?_
  refine wp_put rfl (ss_in z27 rfl) rfl rfl rfl ?_
  refine wp_1 rfl ?_
  refine wp_get rfl (ss_in z27 rfl) rfl rfl ?_
  refine wp_callV rfl rfl (ss_out z31 rfl) rfl rfl rfl ?_
  iterate 2 refine wp_1 rfl ?_
  refine wp_get rfl (ss_out z31 rfl) rfl rfl ?_
  iterate 2 refine wp_1 rfl ?_
  refine wp_put rfl (ss_out z31 rfl) rfl rfl rfl ?_
  refine wp_1 rfl ?_
  refine wp_get rfl (ss_in z31 rfl) rfl rfl ?_
  iterate 2 refine wp_1 rfl ?_
  refine wp_get rfl (ss_in z31 rfl) rfl rfl ?_
  iterate 4 refine wp_1 rfl ?_
  refine wp_put rfl (ss_in z31 rfl) rfl rfl rfl ?_
  iterate 4 refine wp_1 rfl ?_
  refine wp_r rfl ?_
  refine wp_r rfl ?_
  refine wp_1 rfl ?_
  refine wp_lv (lv' := [(1, .int 2), (0, .ref 18)]) rfl ?_
  iterate 3 refine wp_1 rfl ?_
  refine wp_get rfl (ss_in z18 rfl) rfl rfl ?_
  refine wp_alen rfl (ss_out z19 rfl) ?_
  iterate 2 refine wp_1 rfl ?_
  refine wp_get rfl (ss_in z18 rfl) rfl rfl ?_
  refine wp_1 rfl ?_
  refine wp_aald rfl (ss_out z19 rfl) rfl rfl ?_
  refine wp_1 rfl ?_
  refine wp_put rfl (ss_out z32 rfl) rfl rfl rfl ?_
  refine wp_1 rfl ?_
  refine wp_get rfl (ss_in z18 rfl) rfl rfl ?_
  refine wp_1 rfl ?_
  refine wp_aald rfl (ss_out z19 rfl) rfl rfl ?_
  refine wp_callV rfl rfl (ss_in z32 rfl) rfl rfl rfl ?_
  iterate 2 refine wp_1 rfl ?_
  refine wp_put rfl (ss_in z32 rfl) rfl rfl rfl ?_
  iterate 2 refine wp_1 rfl ?_
  refine wp_put rfl (ss_in z32 rfl) rfl rfl rfl ?_
  refine wp_1 rfl ?_
  refine wp_get rfl (ss_in z32 rfl) rfl rfl ?_
  refine wp_callV rfl rfl (ss_out z33 rfl) rfl rfl rfl ?_
  iterate 2 refine wp_1 rfl ?_
  refine wp_get rfl (ss_out z33 rfl) rfl rfl ?_
  iterate 2 refine wp_1 rfl ?_
  refine wp_put rfl (ss_out z33 rfl) rfl rfl rfl ?_
  refine wp_1 rfl ?_
  refine wp_get rfl (ss_in z33 rfl) rfl rfl ?_
  iterate 2 refine wp_1 rfl ?_
  refine wp_get rfl (ss_in z33 rfl) rfl rfl ?_
  iterate 4 refine wp_1 rfl ?_
  refine wp_put rfl (ss_in z33 rfl) rfl rfl rfl ?_
  iterate 4 refine wp_1 rfl ?_
  refine wp_r rfl ?_
  iterate 2 refine wp_1 rfl ?_
  refine wp_put rfl (ss_in z32 rfl) rfl rfl rfl ?_
  iterate 2 refine wp_1 rfl ?_
  refine wp_put rfl (ss_in z32 rfl) rfl rfl rfl ?_
  refine wp_1 rfl ?_
  refine wp_get rfl (ss_in z32 rfl) rfl rfl ?_
  refine wp_callV rfl rfl (ss_out z36 rfl) rfl rfl rfl ?_
  iterate 2 refine wp_1 rfl ?_
  refine wp_get rfl (ss_out z36 rfl) rfl rfl ?_
  iterate 2 refine wp_1 rfl ?_
  refine wp_put rfl (ss_out z36 rfl) rfl rfl rfl ?_
  refine wp_1 rfl ?_
  refine wp_get rfl (ss_in z36 rfl) rfl rfl ?_
  iterate 2 refine wp_1 rfl ?_
  refine wp_get rfl (ss_in z36 rfl) rfl rfl ?_
  iterate 4 refine wp_1 rfl ?_
  refine wp_put rfl (ss_in z36 rfl) rfl rfl rfl ?_
  iterate 4 refine wp_1 rfl ?_
  refine wp_r rfl ?_
  refine wp_r rfl ?_
  refine wp_1 rfl ?_
  refine wp_lv (lv' := [(1, .int 3), (0, .ref 18)]) rfl ?_
  iterate 3 refine wp_1 rfl ?_
  refine wp_get rfl (ss_in z18 rfl) rfl rfl ?_
  refine wp_alen rfl (ss_out z19 rfl) ?_
  iterate 2 refine wp_1 rfl ?_
  refine wp_get rfl (ss_in z18 rfl) rfl rfl ?_
  refine wp_1 rfl ?_
  refine wp_aald rfl (ss_out z19 rfl) rfl rfl ?_
  refine wp_1 rfl ?_
  refine wp_put rfl (ss_out z37 rfl) rfl rfl rfl ?_
  refine wp_1 rfl ?_
  refine wp_get rfl (ss_in z18 rfl) rfl rfl ?_
  refine wp_1 rfl ?_
  refine wp_aald rfl (ss_out z19 rfl) rfl rfl ?_
  refine wp_callV rfl rfl (ss_in z37 rfl) rfl rfl rfl ?_
  iterate 2 refine wp_1 rfl ?_
  refine wp_put rfl (ss_in z37 rfl) rfl rfl rfl ?_
  iterate 2 refine wp_1 rfl ?_
  refine wp_put rfl (ss_in z37 rfl) rfl rfl rfl ?_
  refine wp_1 rfl ?_
  refine wp_get rfl (ss_in z37 rfl) rfl rfl ?_
  refine wp_callV rfl rfl (ss_out z38 rfl) rfl rfl rfl ?_
  iterate 2 refine wp_1 rfl ?_
  refine wp_get rfl (ss_out z38 rfl) rfl rfl ?_
  iterate 2 refine wp_1 rfl ?_
  refine wp_put rfl (ss_out z38 rfl) rfl rfl rfl ?_
  refine wp_1 rfl ?_
  refine wp_get rfl (ss_in z38 rfl) rfl rfl ?_
  iterate 2 refine wp_1 rfl ?_
  refine wp_get rfl (ss_in z38 rfl) rfl rfl ?_
  iterate 4 refine wp_1 rfl ?_
  refine wp_put rfl (ss_in z38 rfl) rfl rfl rfl ?_
  iterate 4 refine wp_1 rfl ?_
  refine wp_r rfl ?_
  iterate 2 refine wp_1 rfl ?_
  refine wp_put rfl (ss_in z37 rfl) rfl rfl rfl ?_
  iterate 2 refine wp_1 rfl ?_
  refine wp_put rfl (ss_in z37 rfl) rfl rfl rfl ?_
  refine wp_1 rfl ?_
  refine wp_get rfl (ss_in z37 rfl) rfl rfl ?_
  refine wp_callV rfl rfl (ss_out z41 rfl) rfl rfl rfl ?_
  iterate 2 refine wp_1 rfl ?_
  refine wp_get rfl (ss_out z41 rfl) rfl rfl ?_
  iterate 2 refine wp_1 rfl ?_
  refine wp_put rfl (ss_out z41 rfl) rfl rfl rfl ?_
  refine wp_1 rfl ?_
  refine wp_get rfl (ss_in z41 rfl) rfl rfl ?_
  iterate 2 refine wp_1 rfl ?_
  refine wp_get rfl (ss_in z41 rfl) rfl rfl ?_
  iterate 4 refine wp_1 rfl ?_
  refine wp_put rfl (ss_in z41 rfl) rfl rfl rfl ?_
  iterate 4 refine wp_1 rfl ?_
  refine wp_r rfl ?_
  refine wp_r rfl ?_
  refine wp_1 rfl ?_
  refine wp_lv (lv' := [(1, .int 4), (0, .ref 18)]) rfl ?_
  iterate 3 refine wp_1 rfl ?_
  refine wp_get rfl (ss_in z18 rfl) rfl rfl ?_
  refine wp_alen rfl (ss_out z19 rfl) ?_
  refine wp_1 rfl ?_
  refine wp_r rfl ?_
  refine wp_1 rfl ?_
  refine wp_lv (lv' := [(2, .int 1), (0, .ref 0), (1, .int n)]) rfl ?_
  iterate 5 refine wp_1 rfl ?_
  refine wp_get rfl (ss_in z0 rfl) rfl rfl ?_
  refine wp_1 rfl ?_
  refine wp_aald rfl (ss_out z2 rfl) rfl rfl ?_
  refine wp_callV rfl rfl (ss_out z42 rfl) rfl rfl rfl ?_
  iterate 2 refine wp_1 rfl ?_
  refine wp_put rfl (ss_out z42 rfl) rfl rfl rfl ?_
  iterate 2 refine wp_1 rfl ?_
  refine wp_put rfl (ss_in z42 rfl) rfl rfl rfl ?_
  iterate 4 refine wp_1 rfl ?_
  refine wp_get rfl (ss_in z42 rfl) rfl rfl ?_
  refine wp_alen rfl (ss_out z43 rfl) ?_
  iterate 2 refine wp_1 rfl ?_
  refine wp_get rfl (ss_in z42 rfl) rfl rfl ?_
  refine wp_1 rfl ?_
  refine wp_aald rfl (ss_out z43 rfl) rfl rfl ?_
  refine wp_1 rfl ?_
  refine wp_put rfl (ss_out z51 rfl) rfl rfl rfl ?_
  refine wp_1 rfl ?_
  refine wp_get rfl (ss_in z42 rfl) rfl rfl ?_
  refine wp_1 rfl ?_
  refine wp_aald rfl (ss_out z43 rfl) rfl rfl ?_
  refine wp_callV rfl rfl (ss_in z51 rfl) rfl rfl rfl ?_
  iterate 2 refine wp_1 rfl ?_
  refine wp_put rfl (ss_in z51 rfl) rfl rfl rfl ?_
  iterate 2 refine wp_1 rfl ?_
  refine wp_put rfl (ss_in z51 rfl) rfl rfl rfl ?_
  refine wp_1 rfl ?_
  refine wp_get rfl (ss_in z51 rfl) rfl rfl ?_
  refine wp_callV rfl rfl (ss_out z52 rfl) rfl rfl rfl ?_
  iterate 2 refine wp_1 rfl ?_
  refine wp_get rfl (ss_out z52 rfl) rfl rfl ?_
  iterate 2 refine wp_1 rfl ?_
  refine wp_put rfl (ss_out z52 rfl) rfl rfl rfl ?_
  refine wp_1 rfl ?_
  refine wp_get rfl (ss_in z52 rfl) rfl rfl ?_
  iterate 2 refine wp_1 rfl ?_
  refine wp_get rfl (ss_in z52 rfl) rfl rfl ?_
  iterate 4 refine wp_1 rfl ?_
  refine wp_put rfl (ss_in z52 rfl) rfl rfl rfl ?_
  iterate 4 refine wp_1 rfl ?_
  refine wp_r rfl ?_
  iterate 2 refine wp_1 rfl ?_
  refine wp_put rfl (ss_in z51 rfl) rfl rfl rfl ?_
  iterate 2 refine wp_1 rfl ?_
  refine wp_put rfl (ss_in z51 rfl) rfl rfl rfl ?_
  refine wp_1 rfl ?_
  refine wp_get rfl (ss_in z51 rfl) rfl rfl ?_
  refine wp_callV rfl rfl (ss_out z55 rfl) rfl rfl rfl ?_
  iterate 2 refine wp_1 rfl ?_
  refine wp_get rfl (ss_out z55 rfl) rfl rfl ?_
  iterate 2 refine wp_1 rfl ?_
  refine wp_put rfl (ss_out z55 rfl) rfl rfl rfl ?_
  refine wp_1 rfl ?_
  refine wp_get rfl (ss_in z55 rfl) rfl rfl ?_
  iterate 2 refine wp_1 rfl ?_
  refine wp_get rfl (ss_in z55 rfl) rfl rfl ?_
  iterate 4 refine wp_1 rfl ?_
  refine wp_put rfl (ss_in z55 rfl) rfl rfl rfl ?_
  iterate 4 refine wp_1 rfl ?_
  refine wp_r rfl ?_
  refine wp_r rfl ?_
  refine wp_1 rfl ?_
  refine wp_lv (lv' := [(1, .int 2), (0, .ref 42)]) rfl ?_
  iterate 3 refine wp_1 rfl ?_
  refine wp_get rfl (ss_in z42 rfl) rfl rfl ?_
  refine wp_alen rfl (ss_out z43 rfl) ?_
  iterate 2 refine wp_1 rfl ?_
  refine wp_get rfl (ss_in z42 rfl) rfl rfl ?_
  refine wp_1 rfl ?_
  refine wp_aald rfl (ss_out z43 rfl) rfl rfl ?_
  refine wp_1 rfl ?_
  refine wp_put rfl (ss_out z56 rfl) rfl rfl rfl ?_
  refine wp_1 rfl ?_
  refine wp_get rfl (ss_in z42 rfl) rfl rfl ?_
  refine wp_1 rfl ?_
  refine wp_aald rfl (ss_out z43 rfl) rfl rfl ?_
  refine wp_callV rfl rfl (ss_in z56 rfl) rfl rfl rfl ?_
  iterate 2 refine wp_1 rfl ?_
  refine wp_put rfl (ss_in z56 rfl) rfl rfl rfl ?_
  iterate 2 refine wp_1 rfl ?_
  refine wp_put rfl (ss_in z56 rfl) rfl rfl rfl ?_
  refine wp_1 rfl ?_
  refine wp_get rfl (ss_in z56 rfl) rfl rfl ?_
  refine wp_callV rfl rfl (ss_out z57 rfl) rfl rfl rfl ?_
  iterate 2 refine wp_1 rfl ?_
  refine wp_get rfl (ss_out z57 rfl) rfl rfl ?_
  iterate 2 refine wp_1 rfl ?_
  refine wp_put rfl (ss_out z57 rfl) rfl rfl rfl ?_
  refine wp_1 rfl ?_
  refine wp_get rfl (ss_in z57 rfl) rfl rfl ?_
  iterate 2 refine wp_1 rfl ?_
  refine wp_get rfl (ss_in z57 rfl) rfl rfl ?_
  iterate 4 refine wp_1 rfl ?_
  refine wp_put rfl (ss_in z57 rfl) rfl rfl rfl ?_
  iterate 4 refine wp_1 rfl ?_
  refine wp_r rfl ?_
  iterate 2 refine wp_1 rfl ?_
  refine wp_put rfl (ss_in z56 rfl) rfl rfl rfl ?_
  iterate 2 refine wp_1 rfl ?_
  refine wp_put rfl (ss_in z56 rfl) rfl rfl rfl ?_
  refine wp_1 rfl ?_
  refine wp_get rfl (ss_in z56 rfl) rfl rfl ?_
  refine wp_callV rfl rfl (ss_out z60 rfl) rfl rfl rfl ?_
  iterate 2 refine wp_1 rfl ?_
  refine wp_get rfl (ss_out z60 rfl) rfl rfl ?_
  iterate 2 refine wp_1 rfl ?_
  refine wp_put rfl (ss_out z60 rfl) rfl rfl rfl ?_
  refine wp_1 rfl ?_
  refine wp_get rfl (ss_in z60 rfl) rfl rfl ?_
  iterate 2 refine wp_1 rfl ?_
  refine wp_get rfl (ss_in z60 rfl) rfl rfl ?_
  iterate 4 refine wp_1 rfl ?_
  refine wp_put rfl (ss_in z60 rfl) rfl rfl rfl ?_
  iterate 4 refine wp_1 rfl ?_
  refine wp_r rfl ?_
  refine wp_r rfl ?_
  refine wp_1 rfl ?_
  refine wp_lv (lv' := [(1, .int 3), (0, .ref 42)]) rfl ?_
  iterate 3 refine wp_1 rfl ?_
  refine wp_get rfl (ss_in z42 rfl) rfl rfl ?_
  refine wp_alen rfl (ss_out z43 rfl) ?_
  iterate 2 refine wp_1 rfl ?_
  refine wp_get rfl (ss_in z42 rfl) rfl rfl ?_
  refine wp_1 rfl ?_
  refine wp_aald rfl (ss_out z43 rfl) rfl rfl ?_
  refine wp_1 rfl ?_
  refine wp_put rfl (ss_out z61 rfl) rfl rfl rfl ?_
  refine wp_1 rfl ?_
  refine wp_get rfl (ss_in z42 rfl) rfl rfl ?_
  refine wp_1 rfl ?_
  refine wp_aald rfl (ss_out z43 rfl) rfl rfl ?_
  refine wp_callV rfl rfl (ss_in z61 rfl) rfl rfl rfl ?_
  iterate 2 refine wp_1 rfl ?_
  refine wp_put rfl (ss_in z61 rfl) rfl rfl rfl ?_
  iterate 2 refine wp_1 rfl ?_
  refine wp_put rfl (ss_in z61 rfl) rfl rfl rfl ?_
  refine wp_1 rfl ?_
  refine wp_get rfl (ss_in z61 rfl) rfl rfl ?_
  refine wp_callV rfl rfl (ss_out z62 rfl) rfl rfl rfl ?_
  iterate 2 refine wp_1 rfl ?_
  refine wp_get rfl (ss_out z62 rfl) rfl rfl ?_
  iterate 2 refine wp_1 rfl ?_
  refine wp_put rfl (ss_out z62 rfl) rfl rfl rfl ?_
  refine wp_1 rfl ?_
  refine wp_get rfl (ss_in z62 rfl) rfl rfl ?_
  iterate 2 refine wp_1 rfl ?_
  refine wp_get rfl (ss_in z62 rfl) rfl rfl ?_
  iterate 4 refine wp_1 rfl ?_
  refine wp_put rfl (ss_in z62 rfl) rfl rfl rfl ?_
  iterate 4 refine wp_1 rfl ?_
  refine wp_r rfl ?_
  iterate 2 refine wp_1 rfl ?_
  refine wp_put rfl (ss_in z61 rfl) rfl rfl rfl ?_
  iterate 2 refine wp_1 rfl ?_
  refine wp_put rfl (ss_in z61 rfl) rfl rfl rfl ?_
  refine wp_1 rfl ?_
  refine wp_get rfl (ss_in z61 rfl) rfl rfl ?_
  refine wp_callV rfl rfl (ss_out z65 rfl) rfl rfl rfl ?_
  iterate 2 refine wp_1 rfl ?_
  refine wp_get rfl (ss_out z65 rfl) rfl rfl ?_
  iterate 2 refine wp_1 rfl ?_
  refine wp_put rfl (ss_out z65 rfl) rfl rfl rfl ?_
  refine wp_1 rfl ?_
  refine wp_get rfl (ss_in z65 rfl) rfl rfl ?_
  iterate 2 refine wp_1 rfl ?_
  refine wp_get rfl (ss_in z65 rfl) rfl rfl ?_
  iterate 4 refine wp_1 rfl ?_
  refine wp_put rfl (ss_in z65 rfl) rfl rfl rfl ?_
  iterate 4 refine wp_1 rfl ?_
  refine wp_r rfl ?_
  refine wp_r rfl ?_
  refine wp_1 rfl ?_
  refine wp_lv (lv' := [(1, .int 4), (0, .ref 42)]) rfl ?_
  iterate 3 refine wp_1 rfl ?_
  refine wp_get rfl (ss_in z42 rfl) rfl rfl ?_
  refine wp_alen rfl (ss_out z43 rfl) ?_
  refine wp_1 rfl ?_
  refine wp_r rfl ?_
  refine wp_1 rfl ?_
  refine wp_lv (lv' := [(2, .int 2), (0, .ref 0), (1, .int n)]) rfl ?_
  iterate 5 refine wp_1 rfl ?_
  refine wp_get rfl (ss_in z0 rfl) rfl rfl ?_
  refine wp_1 rfl ?_
  refine wp_aald rfl (ss_out z2 rfl) rfl rfl ?_
  refine wp_callV rfl rfl (ss_out z66 rfl) rfl rfl rfl ?_
  iterate 2 refine wp_1 rfl ?_
  refine wp_put rfl (ss_out z66 rfl) rfl rfl rfl ?_
  iterate 2 refine wp_1 rfl ?_
  refine wp_put rfl (ss_in z66 rfl) rfl rfl rfl ?_
  iterate 4 refine wp_1 rfl ?_
  refine wp_get rfl (ss_in z66 rfl) rfl rfl ?_
  refine wp_alen rfl (ss_out z67 rfl) ?_
  iterate 2 refine wp_1 rfl ?_
  refine wp_get rfl (ss_in z66 rfl) rfl rfl ?_
  refine wp_1 rfl ?_
  refine wp_aald rfl (ss_out z67 rfl) rfl rfl ?_
  refine wp_1 rfl ?_
  refine wp_put rfl (ss_out z75 rfl) rfl rfl rfl ?_
  refine wp_1 rfl ?_
  refine wp_get rfl (ss_in z66 rfl) rfl rfl ?_
  refine wp_1 rfl ?_
  refine wp_aald rfl (ss_out z67 rfl) rfl rfl ?_
  refine wp_callV rfl rfl (ss_in z75 rfl) rfl rfl rfl ?_
  iterate 2 refine wp_1 rfl ?_
  refine wp_put rfl (ss_in z75 rfl) rfl rfl rfl ?_
  iterate 2 refine wp_1 rfl ?_
  refine wp_put rfl (ss_in z75 rfl) rfl rfl rfl ?_
  refine wp_1 rfl ?_
  refine wp_get rfl (ss_in z75 rfl) rfl rfl ?_
  refine wp_callV rfl rfl (ss_out z76 rfl) rfl rfl rfl ?_
  iterate 2 refine wp_1 rfl ?_
  refine wp_get rfl (ss_out z76 rfl) rfl rfl ?_
  iterate 2 refine wp_1 rfl ?_
  refine wp_put rfl (ss_out z76 rfl) rfl rfl rfl ?_
  refine wp_1 rfl ?_
  refine wp_get rfl (ss_in z76 rfl) rfl rfl ?_
  iterate 2 refine wp_1 rfl ?_
  refine wp_get rfl (ss_in z76 rfl) rfl rfl ?_
  iterate 4 refine wp_1 rfl ?_
  refine wp_put rfl (ss_in z76 rfl) rfl rfl rfl ?_
  iterate 4 refine wp_1 rfl ?_
  refine wp_r rfl ?_
  iterate 2 refine wp_1 rfl ?_
  refine wp_put rfl (ss_in z75 rfl) rfl rfl rfl ?_
  iterate 2 refine wp_1 rfl ?_
  refine wp_put rfl (ss_in z75 rfl) rfl rfl rfl ?_
  refine wp_1 rfl ?_
  refine wp_get rfl (ss_in z75 rfl) rfl rfl ?_
  refine wp_callV rfl rfl (ss_out z79 rfl) rfl rfl rfl ?_
  iterate 2 refine wp_1 rfl ?_
  refine wp_get rfl (ss_out z79 rfl) rfl rfl ?_
  iterate 2 refine wp_1 rfl ?_
  refine wp_put rfl (ss_out z79 rfl) rfl rfl rfl ?_
  refine wp_1 rfl ?_
  refine wp_get rfl (ss_in z79 rfl) rfl rfl ?_
  iterate 2 refine wp_1 rfl ?_
  refine wp_get rfl (ss_in z79 rfl) rfl rfl ?_
  iterate 4 refine wp_1 rfl ?_
  refine wp_put rfl (ss_in z79 rfl) rfl rfl rfl ?_
  iterate 4 refine wp_1 rfl ?_
  refine wp_r rfl ?_
  refine wp_r rfl ?_
  refine wp_1 rfl ?_
  refine wp_lv (lv' := [(1, .int 2), (0, .ref 66)]) rfl ?_
  iterate 3 refine wp_1 rfl ?_
  refine wp_get rfl (ss_in z66 rfl) rfl rfl ?_
  refine wp_alen rfl (ss_out z67 rfl) ?_
  iterate 2 refine wp_1 rfl ?_
  refine wp_get rfl (ss_in z66 rfl) rfl rfl ?_
  refine wp_1 rfl ?_
  refine wp_aald rfl (ss_out z67 rfl) rfl rfl ?_
  refine wp_1 rfl ?_
  refine wp_put rfl (ss_out z80 rfl) rfl rfl rfl ?_
  refine wp_1 rfl ?_
  refine wp_get rfl (ss_in z66 rfl) rfl rfl ?_
  refine wp_1 rfl ?_
  refine wp_aald rfl (ss_out z67 rfl) rfl rfl ?_
  refine wp_callV rfl rfl (ss_in z80 rfl) rfl rfl rfl ?_
  iterate 2 refine wp_1 rfl ?_
  refine wp_put rfl (ss_in z80 rfl) rfl rfl rfl ?_
  iterate 2 refine wp_1 rfl ?_
  refine wp_put rfl (ss_in z80 rfl) rfl rfl rfl ?_
  refine wp_1 rfl ?_
  refine wp_get rfl (ss_in z80 rfl) rfl rfl ?_
  refine wp_callV rfl rfl (ss_out z81 rfl) rfl rfl rfl ?_
  iterate 2 refine wp_1 rfl ?_
  refine wp_get rfl (ss_out z81 rfl) rfl rfl ?_
  iterate 2 refine wp_1 rfl ?_
  refine wp_put rfl (ss_out z81 rfl) rfl rfl rfl ?_
  refine wp_1 rfl ?_
  refine wp_get rfl (ss_in z81 rfl) rfl rfl ?_
  iterate 2 refine wp_1 rfl ?_
  refine wp_get rfl (ss_in z81 rfl) rfl rfl ?_
  iterate 4 refine wp_1 rfl ?_
  refine wp_put rfl (ss_in z81 rfl) rfl rfl rfl ?_
  iterate 4 refine wp_1 rfl ?_
  refine wp_r rfl ?_
  iterate 2 refine wp_1 rfl ?_
  refine wp_put rfl (ss_in z80 rfl) rfl rfl rfl ?_
  iterate 2 refine wp_1 rfl ?_
  refine wp_put rfl (ss_in z80 rfl) rfl rfl rfl ?_
  refine wp_1 rfl ?_
  refine wp_get rfl (ss_in z80 rfl) rfl rfl ?_
  refine wp_callV rfl rfl (ss_out z84 rfl) rfl rfl rfl ?_
  iterate 2 refine wp_1 rfl ?_
  refine wp_get rfl (ss_out z84 rfl) rfl rfl ?_
  iterate 2 refine wp_1 rfl ?_
  refine wp_put rfl (ss_out z84 rfl) rfl rfl rfl ?_
  refine wp_1 rfl ?_
  refine wp_get rfl (ss_in z84 rfl) rfl rfl ?_
  iterate 2 refine wp_1 rfl ?_
  refine wp_get rfl (ss_in z84 rfl) rfl rfl ?_
  iterate 4 refine wp_1 rfl ?_
  refine wp_put rfl (ss_in z84 rfl) rfl rfl rfl ?_
  iterate 4 refine wp_1 rfl ?_
  refine wp_r rfl ?_
  refine wp_r rfl ?_
  refine wp_1 rfl ?_
  refine wp_lv (lv' := [(1, .int 3), (0, .ref 66)]) rfl ?_
  iterate 3 refine wp_1 rfl ?_
  refine wp_get rfl (ss_in z66 rfl) rfl rfl ?_
  refine wp_alen rfl (ss_out z67 rfl) ?_
  iterate 2 refine wp_1 rfl ?_
  refine wp_get rfl (ss_in z66 rfl) rfl rfl ?_
  refine wp_1 rfl ?_
  refine wp_aald rfl (ss_out z67 rfl) rfl rfl ?_
  refine wp_1 rfl ?_
  refine wp_put rfl (ss_out z85 rfl) rfl rfl rfl ?_
  refine wp_1 rfl ?_
  refine wp_get rfl (ss_in z66 rfl) rfl rfl ?_
  refine wp_1 rfl ?_
  refine wp_aald rfl (ss_out z67 rfl) rfl rfl ?_
  refine wp_callV rfl rfl (ss_in z85 rfl) rfl rfl rfl ?_
  iterate 2 refine wp_1 rfl ?_
  refine wp_put rfl (ss_in z85 rfl) rfl rfl rfl ?_
  iterate 2 refine wp_1 rfl ?_
  refine wp_put rfl (ss_in z85 rfl) rfl rfl rfl ?_
  refine wp_1 rfl ?_
  refine wp_get rfl (ss_in z85 rfl) rfl rfl ?_
  refine wp_callV rfl rfl (ss_out z86 rfl) rfl rfl rfl ?_
  iterate 2 refine wp_1 rfl ?_
  refine wp_get rfl (ss_out z86 rfl) rfl rfl ?_
  iterate 2 refine wp_1 rfl ?_
  refine wp_put rfl (ss_out z86 rfl) rfl rfl rfl ?_
  refine wp_1 rfl ?_
  refine wp_get rfl (ss_in z86 rfl) rfl rfl ?_
  iterate 2 refine wp_1 rfl ?_
  refine wp_get rfl (ss_in z86 rfl) rfl rfl ?_
  iterate 4 refine wp_1 rfl ?_
  refine wp_put rfl (ss_in z86 rfl) rfl rfl rfl ?_
  iterate 4 refine wp_1 rfl ?_
  refine wp_r rfl ?_
  iterate 2 refine wp_1 rfl ?_
  refine wp_put rfl (ss_in z85 rfl) rfl rfl rfl ?_
  iterate 2 refine wp_1 rfl ?_
  refine wp_put rfl (ss_in z85 rfl) rfl rfl rfl ?_
  refine wp_1 rfl ?_
  refine wp_get rfl (ss_in z85 rfl) rfl rfl ?_
  refine wp_callV rfl rfl (ss_out z89 rfl) rfl rfl rfl ?_
  iterate 2 refine wp_1 rfl ?_
  refine wp_get rfl (ss_out z89 rfl) rfl rfl ?_
  iterate 2 refine wp_1 rfl ?_
  refine wp_put rfl (ss_out z89 rfl) rfl rfl rfl ?_
  refine wp_1 rfl ?_
  refine wp_get rfl (ss_in z89 rfl) rfl rfl ?_
  iterate 2 refine wp_1 rfl ?_
  refine wp_get rfl (ss_in z89 rfl) rfl rfl ?_
  iterate 4 refine wp_1 rfl ?_
  refine wp_put rfl (ss_in z89 rfl) rfl rfl rfl ?_
  iterate 4 refine wp_1 rfl ?_
  refine wp_r rfl ?_
  refine wp_r rfl ?_
  refine wp_1 rfl ?_
  refine wp_lv (lv' := [(1, .int 4), (0, .ref 66)]) rfl ?_
  iterate 3 refine wp_1 rfl ?_
  refine wp_get rfl (ss_in z66 rfl) rfl rfl ?_
  refine wp_alen rfl (ss_out z67 rfl) ?_
  refine wp_1 rfl ?_
  refine wp_r rfl ?_
  refine wp_1 rfl ?_
  refine wp_lv (lv' := [(2, .int 3), (0, .ref 0), (1, .int n)]) rfl ?_
  iterate 5 refine wp_1 rfl ?_
  refine wp_get rfl (ss_in z0 rfl) rfl rfl ?_
  refine wp_1 rfl ?_
  refine wp_aald rfl (ss_out z2 rfl) rfl rfl ?_
  refine wp_callV rfl rfl (ss_out z90 rfl) rfl rfl rfl ?_
  iterate 2 refine wp_1 rfl ?_
  refine wp_put rfl (ss_out z90 rfl) rfl rfl rfl ?_
  iterate 2 refine wp_1 rfl ?_
  refine wp_put rfl (ss_in z90 rfl) rfl rfl rfl ?_
  iterate 4 refine wp_1 rfl ?_
  refine wp_get rfl (ss_in z90 rfl) rfl rfl ?_
  refine wp_alen rfl (ss_out z91 rfl) ?_
  iterate 2 refine wp_1 rfl ?_
  refine wp_get rfl (ss_in z90 rfl) rfl rfl ?_
  refine wp_1 rfl ?_
  refine wp_aald rfl (ss_out z91 rfl) rfl rfl ?_
  refine wp_1 rfl ?_
  refine wp_put rfl (ss_out z99 rfl) rfl rfl rfl ?_
  refine wp_1 rfl ?_
  refine wp_get rfl (ss_in z90 rfl) rfl rfl ?_
  refine wp_1 rfl ?_
  refine wp_aald rfl (ss_out z91 rfl) rfl rfl ?_
  refine wp_callV rfl rfl (ss_in z99 rfl) rfl rfl rfl ?_
  iterate 2 refine wp_1 rfl ?_
  refine wp_put rfl (ss_in z99 rfl) rfl rfl rfl ?_
  iterate 2 refine wp_1 rfl ?_
  refine wp_put rfl (ss_in z99 rfl) rfl rfl rfl ?_
  refine wp_1 rfl ?_
  refine wp_get rfl (ss_in z99 rfl) rfl rfl ?_
  refine wp_callV rfl rfl (ss_out z100 rfl) rfl rfl rfl ?_
  iterate 2 refine wp_1 rfl ?_
  refine wp_get rfl (ss_out z100 rfl) rfl rfl ?_
  iterate 2 refine wp_1 rfl ?_
  refine wp_put rfl (ss_out z100 rfl) rfl rfl rfl ?_
  refine wp_1 rfl ?_
  refine wp_get rfl (ss_in z100 rfl) rfl rfl ?_
  iterate 2 refine wp_1 rfl ?_
  refine wp_get rfl (ss_in z100 rfl) rfl rfl ?_
  iterate 4 refine wp_1 rfl ?_
  refine wp_put rfl (ss_in z100 rfl) rfl rfl rfl ?_
  iterate 4 refine wp_1 rfl ?_
  refine wp_r rfl ?_
  iterate 2 refine wp_1 rfl ?_
  refine wp_put rfl (ss_in z99 rfl) rfl rfl rfl ?_
  iterate 2 refine wp_1 rfl ?_
  refine wp_put rfl (ss_in z99 rfl) rfl rfl rfl ?_
  refine wp_1 rfl ?_
  refine wp_get rfl (ss_in z99 rfl) rfl rfl ?_
  refine wp_callV rfl rfl (ss_out z103 rfl) rfl rfl rfl ?_
  iterate 2 refine wp_1 rfl ?_
  refine wp_get rfl (ss_out z103 rfl) rfl rfl ?_
  iterate 2 refine wp_1 rfl ?_
  refine wp_put rfl (ss_out z103 rfl) rfl rfl rfl ?_
  refine wp_1 rfl ?_
  refine wp_get rfl (ss_in z103 rfl) rfl rfl ?_
  iterate 2 refine wp_1 rfl ?_
  refine wp_get rfl (ss_in z103 rfl) rfl rfl ?_
  iterate 4 refine wp_1 rfl ?_
  refine wp_put rfl (ss_in z103 rfl) rfl rfl rfl ?_
  iterate 4 refine wp_1 rfl ?_
  refine wp_r rfl ?_
  refine wp_r rfl ?_
  refine wp_1 rfl ?_
  refine wp_lv (lv' := [(1, .int 2), (0, .ref 90)]) rfl ?_
  iterate 3 refine wp_1 rfl ?_
  refine wp_get rfl (ss_in z90 rfl) rfl rfl ?_
  refine wp_alen rfl (ss_out z91 rfl) ?_
  iterate 2 refine wp_1 rfl ?_
  refine wp_get rfl (ss_in z90 rfl) rfl rfl ?_
  refine wp_1 rfl ?_
  refine wp_aald rfl (ss_out z91 rfl) rfl rfl ?_
  refine wp_1 rfl ?_
  refine wp_put rfl (ss_out z104 rfl) rfl rfl rfl ?_
  refine wp_1 rfl ?_
  refine wp_get rfl (ss_in z90 rfl) rfl rfl ?_
  refine wp_1 rfl ?_
  refine wp_aald rfl (ss_out z91 rfl) rfl rfl ?_
  refine wp_callV rfl rfl (ss_in z104 rfl) rfl rfl rfl ?_
  iterate 2 refine wp_1 rfl ?_
  refine wp_put rfl (ss_in z104 rfl) rfl rfl rfl ?_
  iterate 2 refine wp_1 rfl ?_
  refine wp_put rfl (ss_in z104 rfl) rfl rfl rfl ?_
  refine wp_1 rfl ?_
  refine wp_get rfl (ss_in z104 rfl) rfl rfl ?_
  refine wp_callV rfl rfl (ss_out z105 rfl) rfl rfl rfl ?_
  iterate 2 refine wp_1 rfl ?_
  refine wp_get rfl (ss_out z105 rfl) rfl rfl ?_
  iterate 2 refine wp_1 rfl ?_
  refine wp_put rfl (ss_out z105 rfl) rfl rfl rfl ?_
  refine wp_1 rfl ?_
  refine wp_get rfl (ss_in z105 rfl) rfl rfl ?_
  iterate 2 refine wp_1 rfl ?_
  refine wp_get rfl (ss_in z105 rfl) rfl rfl ?_
  iterate 4 refine wp_1 rfl ?_
  refine wp_put rfl (ss_in z105 rfl) rfl rfl rfl ?_
  iterate 4 refine wp_1 rfl ?_
  refine wp_r rfl ?_
  iterate 2 refine wp_1 rfl ?_
  refine wp_put rfl (ss_in z104 rfl) rfl rfl rfl ?_
  iterate 2 refine wp_1 rfl ?_
  refine wp_put rfl (ss_in z104 rfl) rfl rfl rfl ?_
  refine wp_1 rfl ?_
  refine wp_get rfl (ss_in z104 rfl) rfl rfl ?_
  refine wp_callV rfl rfl (ss_out z108 rfl) rfl rfl rfl ?_
  iterate 2 refine wp_1 rfl ?_
  refine wp_get rfl (ss_out z108 rfl) rfl rfl ?_
  iterate 2 refine wp_1 rfl ?_
  refine wp_put rfl (ss_out z108 rfl) rfl rfl rfl ?_
  refine wp_1 rfl ?_
  refine wp_get rfl (ss_in z108 rfl) rfl rfl ?_
  iterate 2 refine wp_1 rfl ?_
  refine wp_get rfl (ss_in z108 rfl) rfl rfl ?_
  iterate 4 refine wp_1 rfl ?_
  refine wp_put rfl (ss_in z108 rfl) rfl rfl rfl ?_
  iterate 4 refine wp_1 rfl ?_
  refine wp_r rfl ?_
  refine wp_r rfl ?_
  refine wp_1 rfl ?_
  refine wp_lv (lv' := [(1, .int 3), (0, .ref 90)]) rfl ?_
  iterate 3 refine wp_1 rfl ?_
  refine wp_get rfl (ss_in z90 rfl) rfl rfl ?_
  refine wp_alen rfl (ss_out z91 rfl) ?_
  iterate 2 refine wp_1 rfl ?_
  refine wp_get rfl (ss_in z90 rfl) rfl rfl ?_
  refine wp_1 rfl ?_
  refine wp_aald rfl (ss_out z91 rfl) rfl rfl ?_
  refine wp_1 rfl ?_
  refine wp_put rfl (ss_out z109 rfl) rfl rfl rfl ?_
  refine wp_1 rfl ?_
  refine wp_get rfl (ss_in z90 rfl) rfl rfl ?_
  refine wp_1 rfl ?_
  refine wp_aald rfl (ss_out z91 rfl) rfl rfl ?_
  refine wp_callV rfl rfl (ss_in z109 rfl) rfl rfl rfl ?_
  iterate 2 refine wp_1 rfl ?_
  refine wp_put rfl (ss_in z109 rfl) rfl rfl rfl ?_
  iterate 2 refine wp_1 rfl ?_
  refine wp_put rfl (ss_in z109 rfl) rfl rfl rfl ?_
  refine wp_1 rfl ?_
  refine wp_get rfl (ss_in z109 rfl) rfl rfl ?_
  refine wp_callV rfl rfl (ss_out z110 rfl) rfl rfl rfl ?_
  iterate 2 refine wp_1 rfl ?_
  refine wp_get rfl (ss_out z110 rfl) rfl rfl ?_
  iterate 2 refine wp_1 rfl ?_
  refine wp_put rfl (ss_out z110 rfl) rfl rfl rfl ?_
  refine wp_1 rfl ?_
  refine wp_get rfl (ss_in z110 rfl) rfl rfl ?_
  iterate 2 refine wp_1 rfl ?_
  refine wp_get rfl (ss_in z110 rfl) rfl rfl ?_
  iterate 4 refine wp_1 rfl ?_
  refine wp_put rfl (ss_in z110 rfl) rfl rfl rfl ?_
  iterate 4 refine wp_1 rfl ?_
  refine wp_r rfl ?_
  iterate 2 refine wp_1 rfl ?_
  refine wp_put rfl (ss_in z109 rfl) rfl rfl rfl ?_
  iterate 2 refine wp_1 rfl ?_
  refine wp_put rfl (ss_in z109 rfl) rfl rfl rfl ?_
  refine wp_1 rfl ?_
  refine wp_get rfl (ss_in z109 rfl) rfl rfl ?_
  refine wp_callV rfl rfl (ss_out z113 rfl) rfl rfl rfl ?_
  iterate 2 refine wp_1 rfl ?_
  refine wp_get rfl (ss_out z113 rfl) rfl rfl ?_
  iterate 2 refine wp_1 rfl ?_
  refine wp_put rfl (ss_out z113 rfl) rfl rfl rfl ?_
  refine wp_1 rfl ?_
  refine wp_get rfl (ss_in z113 rfl) rfl rfl ?_
  iterate 2 refine wp_1 rfl ?_
  refine wp_get rfl (ss_in z113 rfl) rfl rfl ?_
  iterate 4 refine wp_1 rfl ?_
  refine wp_put rfl (ss_in z113 rfl) rfl rfl rfl ?_
  iterate 4 refine wp_1 rfl ?_
  refine wp_r rfl ?_
  refine wp_r rfl ?_
  refine wp_1 rfl ?_
  refine wp_lv (lv' := [(1, .int 4), (0, .ref 90)]) rfl ?_
  iterate 3 refine wp_1 rfl ?_
  refine wp_get rfl (ss_in z90 rfl) rfl rfl ?_
  refine wp_alen rfl (ss_out z91 rfl) ?_
  refine wp_1 rfl ?_
  refine wp_r rfl ?_
  refine wp_1 rfl ?_
  refine wp_lv (lv' := [(2, .int 4), (0, .ref 0), (1, .int n)]) rfl ?_
  iterate 5 refine wp_1 rfl ?_
  refine wp_get rfl (ss_in z0 rfl) rfl rfl ?_
  refine wp_1 rfl ?_
  refine wp_callV rfl rfl (ss_out z11 rfl) rfl rfl rfl ?_
  iterate 5 refine wp_1 rfl ?_
  refine wp_pc (if_neg b1) ?_
  iterate 2 refine wp_1 rfl ?_
  refine wp_get rfl (ss_out z11 rfl) rfl rfl ?_
  refine wp_callV rfl rfl (ss_out z12 rfl) rfl rfl rfl ?_
  refine wp_1 rfl ?_
  refine wp_get rfl (ss_out z12 rfl) rfl rfl ?_
  refine wp_r rfl ?_
  iterate 2 refine wp_1 rfl ?_
  refine wp_get rfl (ss_out z11 rfl) rfl rfl ?_
  refine wp_callV rfl rfl (ss_out z12 rfl) rfl rfl rfl ?_
  iterate 2 refine wp_1 rfl ?_
  refine wp_get rfl (ss_out z12 rfl) rfl rfl ?_
  iterate 2 refine wp_1 rfl ?_
  refine wp_put rfl (ss_out z12 rfl) rfl rfl rfl ?_
  refine wp_1 rfl ?_
  refine wp_get rfl (ss_in z12 rfl) rfl rfl ?_
  iterate 2 refine wp_1 rfl ?_
  refine wp_get rfl (ss_in z12 rfl) rfl rfl ?_
  iterate 4 refine wp_1 rfl ?_
  refine wp_put rfl (ss_in z12 rfl) rfl rfl rfl ?_
  iterate 4 refine wp_1 rfl ?_
  refine wp_r rfl ?_
  refine wp_r rfl ?_
  refine wp_1 rfl ?_
  refine wp_callV rfl rfl (ss_in z0 rfl) rfl rfl rfl ?_
  refine wp_1 rfl ?_
  refine wp_get rfl (ss_in z0 rfl) rfl rfl ?_
  refine wp_callV rfl rfl (ss_out z4 rfl) rfl rfl rfl ?_
  iterate 2 refine wp_1 rfl ?_
  refine wp_get rfl (ss_out z4 rfl) rfl rfl ?_
  iterate 2 refine wp_1 rfl ?_
  refine wp_put rfl (ss_out z4 rfl) rfl rfl rfl ?_
  refine wp_1 rfl ?_
  refine wp_get rfl (ss_in z4 rfl) rfl rfl ?_
  iterate 2 refine wp_1 rfl ?_
  refine wp_get rfl (ss_in z4 rfl) rfl rfl ?_
  iterate 4 refine wp_1 rfl ?_
  refine wp_put rfl (ss_in z4 rfl) rfl rfl rfl ?_
  iterate 4 refine wp_1 rfl ?_
  refine wp_r rfl ?_
  refine wp_1 rfl ?_
  refine wp_get rfl (ss_in z0 rfl) rfl rfl ?_
  refine wp_callV rfl rfl (ss_out z5 rfl) rfl rfl rfl ?_
  iterate 2 refine wp_1 rfl ?_
  refine wp_get rfl (ss_out z5 rfl) rfl rfl ?_
  iterate 2 refine wp_1 rfl ?_
  refine wp_put rfl (ss_out z5 rfl) rfl rfl rfl ?_
  refine wp_1 rfl ?_
  refine wp_get rfl (ss_in z5 rfl) rfl rfl ?_
  iterate 2 refine wp_1 rfl ?_
  refine wp_get rfl (ss_in z5 rfl) rfl rfl ?_
  iterate 4 refine wp_1 rfl ?_
  refine wp_put rfl (ss_in z5 rfl) rfl rfl rfl ?_
  iterate 4 refine wp_1 rfl ?_
  refine wp_r rfl ?_
  refine wp_1 rfl ?_
  refine wp_get rfl (ss_in z0 rfl) rfl rfl ?_
  refine wp_callV rfl rfl (ss_out z6 rfl) rfl rfl rfl ?_
  iterate 2 refine wp_1 rfl ?_
  refine wp_get rfl (ss_out z6 rfl) rfl rfl ?_
  iterate 2 refine wp_1 rfl ?_
  refine wp_put rfl (ss_out z6 rfl) rfl rfl rfl ?_
  refine wp_1 rfl ?_
  refine wp_get rfl (ss_in z6 rfl) rfl rfl ?_
  iterate 2 refine wp_1 rfl ?_
  refine wp_get rfl (ss_in z6 rfl) rfl rfl ?_
  iterate 4 refine wp_1 rfl ?_
  refine wp_put rfl (ss_in z6 rfl) rfl rfl rfl ?_
  iterate 4 refine wp_1 rfl ?_
  refine wp_r rfl ?_
  refine wp_1 rfl ?_
  refine wp_get rfl (ss_in z0 rfl) rfl rfl ?_
  refine wp_callV rfl rfl (ss_out z7 rfl) rfl rfl rfl ?_
  iterate 2 refine wp_1 rfl ?_
  refine wp_get rfl (ss_out z7 rfl) rfl rfl ?_
  iterate 2 refine wp_1 rfl ?_
  refine wp_put rfl (ss_out z7 rfl) rfl rfl rfl ?_
  refine wp_1 rfl ?_
  refine wp_get rfl (ss_in z7 rfl) rfl rfl ?_
  iterate 2 refine wp_1 rfl ?_
  refine wp_get rfl (ss_in z7 rfl) rfl rfl ?_
  iterate 4 refine wp_1 rfl ?_
  refine wp_put rfl (ss_in z7 rfl) rfl rfl rfl ?_
  iterate 4 refine wp_1 rfl ?_
  refine wp_r rfl ?_
  refine wp_1 rfl ?_
  refine wp_get rfl (ss_in z0 rfl) rfl rfl ?_
  refine wp_callV rfl rfl (ss_out z8 rfl) rfl rfl rfl ?_
  iterate 2 refine wp_1 rfl ?_
  refine wp_get rfl (ss_out z8 rfl) rfl rfl ?_
  iterate 2 refine wp_1 rfl ?_
  refine wp_put rfl (ss_out z8 rfl) rfl rfl rfl ?_
  refine wp_1 rfl ?_
  refine wp_get rfl (ss_in z8 rfl) rfl rfl ?_
  iterate 2 refine wp_1 rfl ?_
  refine wp_get rfl (ss_in z8 rfl) rfl rfl ?_
  iterate 4 refine wp_1 rfl ?_
  refine wp_put rfl (ss_in z8 rfl) rfl rfl rfl ?_
  iterate 4 refine wp_1 rfl ?_
  refine wp_r rfl ?_
  iterate 2 refine wp_1 rfl ?_
  refine wp_put rfl (ss_in z0 rfl) rfl rfl rfl ?_
  refine wp_r rfl ?_
  refine wp_1 rfl ?_
  refine wp_callV rfl rfl (ss_in z0 rfl) rfl rfl rfl ?_
  iterate 4 refine wp_1 rfl ?_
  refine wp_get rfl (ss_in z0 rfl) rfl rfl ?_
  refine wp_get rfl (ss_out z11 rfl) rfl rfl ?_
  refine wp_callV rfl rfl (ss_out z13 rfl) rfl rfl rfl ?_
  refine wp_1 rfl ?_
  refine wp_get rfl (ss_out z13 rfl) rfl rfl ?_
  refine wp_r rfl ?_
  refine wp_1 rfl ?_
  refine wp_r rfl ?_
  refine wp_1 rfl ?_
  refine wp_get rfl (ss_in z0 rfl) rfl rfl ?_
  refine wp_r rfl ?_
  refine wp_1 rfl ?_
  refine wp_last rfl (ss_out z200 rfl) rfl ?_
  iterate 2 refine wp_1 rfl ?_
  refine wp_r rfl (hK _ x_ss_len (x_inv_c (ss_out z114 rfl) <| x_inv_c (ss_out z115 rfl) <| x_inv_c (ss_out z136 rfl) <| x_inv_c (ss_out z139 rfl) <| x_inv_c (ss_out z140 rfl) <| x_inv_c (ss_out z144 rfl) <| x_inv_c (ss_out z148 rfl) <| x_inv_c (ss_out z152 rfl) <| x_inv_c (ss_out z155 rfl) <| x_inv_c (ss_out z156 rfl) <| x_inv_c (ss_out z160 rfl) <| x_inv_c (ss_out z164 rfl) <| x_inv_c (ss_out z168 rfl) <| x_inv_c (ss_out z171 rfl) <| x_inv_c (ss_out z172 rfl) <| x_inv_c (ss_out z176 rfl) <| x_inv_c (ss_out z180 rfl) <| x_inv_c (ss_out z184 rfl) <| x_inv_c (ss_out z187 rfl) <| x_inv_c (ss_out z188 rfl) <| x_inv_c (ss_out z192 rfl) <| x_inv_c (ss_out z196 rfl) <| x_inv_c (ss_in z200 rfl) <| x_inv_n))
set_option maxHeartbeats 4000000 in
theorem cr_M {h : xH} {n : Int32} (hz : x_inv h x_LM) (hlen : h.length < xT) (b0 : ¬ n < 0) (b1 : 0 ≤ n) : x_rfW 482 [.int n] h 0 (fun v h3 => ∃ A, h3[200]? = some (.inl (4, 1, A)) ∧ ∃ i : Int32, v = .int i ∧ i.toInt64 = x_lng A 0) 10 100 := by
  obtain ⟨z114, z115, z136, z139, z140, z144, z148, z152, z155, z156, z160, z164, z168, z171, z172, z176, z180, z184, z187, z188, z192, z196, z200, -⟩ := hz
  refine wp_ov ?_
  iterate 3 refine wp_1 rfl ?_
  refine wp_pc (if_neg b0) ?_
  refine wp_1 rfl ?_
  refine wp_get rfl (ss_out z114 rfl) rfl rfl ?_
  iterate 3 refine wp_1 rfl ?_
  refine wp_put rfl (ss_out z114 rfl) rfl rfl rfl ?_
  refine wp_1 rfl ?_
  refine wp_get rfl (ss_in z114 rfl) rfl rfl ?_
  iterate 3 refine wp_1 rfl ?_
  refine wp_get rfl (ss_in z114 rfl) rfl rfl ?_
  iterate 2 refine wp_1 rfl ?_
  refine wp_put rfl (ss_in z114 rfl) rfl rfl rfl ?_
  iterate 7 refine wp_1 rfl ?_
  refine wp_get rfl (ss_in z114 rfl) rfl rfl ?_
  refine wp_1 rfl ?_
  refine wp_aald rfl (ss_out z115 rfl) rfl rfl ?_
  refine wp_callV rfl rfl (ss_in z114 rfl) rfl rfl rfl ?_
  iterate 2 refine wp_1 rfl ?_
  refine wp_put rfl (ss_out z136 rfl) rfl rfl rfl ?_
  iterate 2 refine wp_1 rfl ?_
  refine wp_put rfl (ss_in z136 rfl) rfl rfl rfl ?_
  iterate 2 refine wp_1 rfl ?_
  refine wp_put rfl (ss_in z136 rfl) rfl rfl rfl ?_
  iterate 6 refine wp_1 rfl ?_
  refine wp_get rfl (ss_in z136 rfl) rfl rfl ?_
  refine wp_1 rfl ?_
  refine wp_aald rfl (ss_out z139 rfl) rfl rfl ?_
  iterate 3 refine wp_1 rfl ?_
  refine wp_put rfl (ss_out z140 rfl) rfl rfl rfl ?_
  refine wp_1 rfl ?_
  refine wp_get rfl (ss_in z140 rfl) rfl rfl ?_
  iterate 3 refine wp_1 rfl ?_
  refine wp_put rfl (ss_in z140 rfl) rfl rfl rfl ?_
  iterate 2 refine wp_1 rfl ?_
  refine wp_put rfl (ss_in z140 rfl) rfl rfl rfl ?_
  iterate 2 refine wp_1 rfl ?_
  refine wp_put rfl (ss_in z140 rfl) rfl rfl rfl ?_
  iterate 2 refine wp_1 rfl ?_
  refine wp_put rfl (ss_in z140 rfl) rfl rfl rfl ?_
  iterate 2 refine wp_1 rfl ?_
  refine wp_put rfl (ss_in z140 rfl) rfl rfl rfl ?_
  iterate 2 refine wp_1 rfl ?_
  refine wp_put rfl (ss_in z140 rfl) rfl rfl rfl ?_
  iterate 2 refine wp_1 rfl ?_
  refine wp_put rfl (ss_in z140 rfl) rfl rfl rfl ?_
  refine wp_1 rfl ?_
  refine wp_lv (lv' := [(2, .int 2), (3, .ref 140), (0, .ref 114), (1, .ref 136)]) rfl ?_
  iterate 5 refine wp_1 rfl ?_
  refine wp_get rfl (ss_in z136 rfl) rfl rfl ?_
  refine wp_1 rfl ?_
  refine wp_aald rfl (ss_out z139 rfl) rfl rfl ?_
  iterate 3 refine wp_1 rfl ?_
  refine wp_put rfl (ss_out z144 rfl) rfl rfl rfl ?_
  refine wp_1 rfl ?_
  refine wp_get rfl (ss_in z144 rfl) rfl rfl ?_
  iterate 3 refine wp_1 rfl ?_
  refine wp_put rfl (ss_in z144 rfl) rfl rfl rfl ?_
  iterate 2 refine wp_1 rfl ?_
  refine wp_put rfl (ss_in z144 rfl) rfl rfl rfl ?_
  iterate 2 refine wp_1 rfl ?_
  refine wp_put rfl (ss_in z144 rfl) rfl rfl rfl ?_
  iterate 2 refine wp_1 rfl ?_
  refine wp_put rfl (ss_in z144 rfl) rfl rfl rfl ?_
  iterate 2 refine wp_1 rfl ?_
  refine wp_put rfl (ss_in z144 rfl) rfl rfl rfl ?_
  iterate 2 refine wp_1 rfl ?_
  refine wp_put rfl (ss_in z144 rfl) rfl rfl rfl ?_
  iterate 2 refine wp_1 rfl ?_
  refine wp_put rfl (ss_in z144 rfl) rfl rfl rfl ?_
  refine wp_1 rfl ?_
  refine wp_lv (lv' := [(2, .int 3), (3, .ref 144), (0, .ref 114), (1, .ref 136)]) rfl ?_
  iterate 5 refine wp_1 rfl ?_
  refine wp_get rfl (ss_in z136 rfl) rfl rfl ?_
  refine wp_1 rfl ?_
  refine wp_aald rfl (ss_out z139 rfl) rfl rfl ?_
  iterate 3 refine wp_1 rfl ?_
  refine wp_put rfl (ss_out z148 rfl) rfl rfl rfl ?_
  refine wp_1 rfl ?_
  refine wp_get rfl (ss_in z148 rfl) rfl rfl ?_
  iterate 3 refine wp_1 rfl ?_
  refine wp_put rfl (ss_in z148 rfl) rfl rfl rfl ?_
  iterate 2 refine wp_1 rfl ?_
  refine wp_put rfl (ss_in z148 rfl) rfl rfl rfl ?_
  iterate 2 refine wp_1 rfl ?_
  refine wp_put rfl (ss_in z148 rfl) rfl rfl rfl ?_
  iterate 2 refine wp_1 rfl ?_
  refine wp_put rfl (ss_in z148 rfl) rfl rfl rfl ?_
  iterate 2 refine wp_1 rfl ?_
  refine wp_put rfl (ss_in z148 rfl) rfl rfl rfl ?_
  iterate 2 refine wp_1 rfl ?_
  refine wp_put rfl (ss_in z148 rfl) rfl rfl rfl ?_
  iterate 2 refine wp_1 rfl ?_
  refine wp_put rfl (ss_in z148 rfl) rfl rfl rfl ?_
  refine wp_1 rfl ?_
  refine wp_lv (lv' := [(2, .int 4), (3, .ref 148), (0, .ref 114), (1, .ref 136)]) rfl ?_
  iterate 4 refine wp_1 rfl ?_
  refine wp_r rfl ?_
  refine wp_1 rfl ?_
  refine wp_lv (lv' := [(2, .int 1), (0, .ref 114), (1, .int n)]) rfl ?_
  iterate 6 refine wp_1 rfl ?_
  refine wp_get rfl (ss_in z114 rfl) rfl rfl ?_
  refine wp_1 rfl ?_
  refine wp_aald rfl (ss_out z115 rfl) rfl rfl ?_
  refine wp_callV rfl rfl (ss_in z114 rfl) rfl rfl rfl ?_
  iterate 2 refine wp_1 rfl ?_
  refine wp_put rfl (ss_out z152 rfl) rfl rfl rfl ?_
  iterate 2 refine wp_1 rfl ?_
  refine wp_put rfl (ss_in z152 rfl) rfl rfl rfl ?_
  iterate 2 refine wp_1 rfl ?_
  refine wp_put rfl (ss_in z152 rfl) rfl rfl rfl ?_
  iterate 6 refine wp_1 rfl ?_
  refine wp_get rfl (ss_in z152 rfl) rfl rfl ?_
  refine wp_1 rfl ?_
  refine wp_aald rfl (ss_out z155 rfl) rfl rfl ?_
  iterate 3 refine wp_1 rfl ?_
  refine wp_put rfl (ss_out z156 rfl) rfl rfl rfl ?_
  refine wp_1 rfl ?_
  refine wp_get rfl (ss_in z156 rfl) rfl rfl ?_
  iterate 3 refine wp_1 rfl ?_
  refine wp_put rfl (ss_in z156 rfl) rfl rfl rfl ?_
  iterate 2 refine wp_1 rfl ?_
  refine wp_put rfl (ss_in z156 rfl) rfl rfl rfl ?_
  iterate 2 refine wp_1 rfl ?_
  refine wp_put rfl (ss_in z156 rfl) rfl rfl rfl ?_
  iterate 2 refine wp_1 rfl ?_
  refine wp_put rfl (ss_in z156 rfl) rfl rfl rfl ?_
  iterate 2 refine wp_1 rfl ?_
  refine wp_put rfl (ss_in z156 rfl) rfl rfl rfl ?_
  iterate 2 refine wp_1 rfl ?_
  refine wp_put rfl (ss_in z156 rfl) rfl rfl rfl ?_
  iterate 2 refine wp_1 rfl ?_
  refine wp_put rfl (ss_in z156 rfl) rfl rfl rfl ?_
  refine wp_1 rfl ?_
  refine wp_lv (lv' := [(2, .int 2), (3, .ref 156), (0, .ref 114), (1, .ref 152)]) rfl ?_
  iterate 5 refine wp_1 rfl ?_
  refine wp_get rfl (ss_in z152 rfl) rfl rfl ?_
  refine wp_1 rfl ?_
  refine wp_aald rfl (ss_out z155 rfl) rfl rfl ?_
  iterate 3 refine wp_1 rfl ?_
  refine wp_put rfl (ss_out z160 rfl) rfl rfl rfl ?_
  refine wp_1 rfl ?_
  refine wp_get rfl (ss_in z160 rfl) rfl rfl ?_
  iterate 3 refine wp_1 rfl ?_
  refine wp_put rfl (ss_in z160 rfl) rfl rfl rfl ?_
  iterate 2 refine wp_1 rfl ?_
  refine wp_put rfl (ss_in z160 rfl) rfl rfl rfl ?_
  iterate 2 refine wp_1 rfl ?_
  refine wp_put rfl (ss_in z160 rfl) rfl rfl rfl ?_
  iterate 2 refine wp_1 rfl ?_
  refine wp_put rfl (ss_in z160 rfl) rfl rfl rfl ?_
  iterate 2 refine wp_1 rfl ?_
  refine wp_put rfl (ss_in z160 rfl) rfl rfl rfl ?_
  iterate 2 refine wp_1 rfl ?_
  refine wp_put rfl (ss_in z160 rfl) rfl rfl rfl ?_
  iterate 2 refine wp_1 rfl ?_
  refine wp_put rfl (ss_in z160 rfl) rfl rfl rfl ?_
  refine wp_1 rfl ?_
  refine wp_lv (lv' := [(2, .int 3), (3, .ref 160), (0, .ref 114), (1, .ref 152)]) rfl ?_
  iterate 5 refine wp_1 rfl ?_
  refine wp_get rfl (ss_in z152 rfl) rfl rfl ?_
  refine wp_1 rfl ?_
  refine wp_aald rfl (ss_out z155 rfl) rfl rfl ?_
  iterate 3 refine wp_1 rfl ?_
  refine wp_put rfl (ss_out z164 rfl) rfl rfl rfl ?_
  refine wp_1 rfl ?_
  refine wp_get rfl (ss_in z164 rfl) rfl rfl ?_
  iterate 3 refine wp_1 rfl ?_
  refine wp_put rfl (ss_in z164 rfl) rfl rfl rfl ?_
  iterate 2 refine wp_1 rfl ?_
  refine wp_put rfl (ss_in z164 rfl) rfl rfl rfl ?_
  iterate 2 refine wp_1 rfl ?_
  refine wp_put rfl (ss_in z164 rfl) rfl rfl rfl ?_
  iterate 2 refine wp_1 rfl ?_
  refine wp_put rfl (ss_in z164 rfl) rfl rfl rfl ?_
  iterate 2 refine wp_1 rfl ?_
  refine wp_put rfl (ss_in z164 rfl) rfl rfl rfl ?_
  iterate 2 refine wp_1 rfl ?_
  refine wp_put rfl (ss_in z164 rfl) rfl rfl rfl ?_
  iterate 2 refine wp_1 rfl ?_
  refine wp_put rfl (ss_in z164 rfl) rfl rfl rfl ?_
  refine wp_1 rfl ?_
  refine wp_lv (lv' := [(2, .int 4), (3, .ref 164), (0, .ref 114), (1, .ref 152)]) rfl ?_
  iterate 4 refine wp_1 rfl ?_
  refine wp_r rfl ?_
  refine wp_1 rfl ?_
  refine wp_lv (lv' := [(2, .int 2), (0, .ref 114), (1, .int n)]) rfl ?_
  iterate 6 refine wp_1 rfl ?_
  refine wp_get rfl (ss_in z114 rfl) rfl rfl ?_
  refine wp_1 rfl ?_
  refine wp_aald rfl (ss_out z115 rfl) rfl rfl ?_
  refine wp_callV rfl rfl (ss_in z114 rfl) rfl rfl rfl ?_
  iterate 2 refine wp_1 rfl ?_
  refine wp_put rfl (ss_out z168 rfl) rfl rfl rfl ?_
  iterate 2 refine wp_1 rfl ?_
  refine wp_put rfl (ss_in z168 rfl) rfl rfl rfl ?_
  iterate 2 refine wp_1 rfl ?_
  refine wp_put rfl (ss_in z168 rfl) rfl rfl rfl ?_
  iterate 6 refine wp_1 rfl ?_
  refine wp_get rfl (ss_in z168 rfl) rfl rfl ?_
  refine wp_1 rfl ?_
  refine wp_aald rfl (ss_out z171 rfl) rfl rfl ?_
  iterate 3 refine wp_1 rfl ?_
  refine wp_put rfl (ss_out z172 rfl) rfl rfl rfl ?_
  refine wp_1 rfl ?_
  refine wp_get rfl (ss_in z172 rfl) rfl rfl ?_
  iterate 3 refine wp_1 rfl ?_
  refine wp_put rfl (ss_in z172 rfl) rfl rfl rfl ?_
  iterate 2 refine wp_1 rfl ?_
  refine wp_put rfl (ss_in z172 rfl) rfl rfl rfl ?_
  iterate 2 refine wp_1 rfl ?_
  refine wp_put rfl (ss_in z172 rfl) rfl rfl rfl ?_
  iterate 2 refine wp_1 rfl ?_
  refine wp_put rfl (ss_in z172 rfl) rfl rfl rfl ?_
  iterate 2 refine wp_1 rfl ?_
  refine wp_put rfl (ss_in z172 rfl) rfl rfl rfl ?_
  iterate 2 refine wp_1 rfl ?_
  refine wp_put rfl (ss_in z172 rfl) rfl rfl rfl ?_
  iterate 2 refine wp_1 rfl ?_
  refine wp_put rfl (ss_in z172 rfl) rfl rfl rfl ?_
  refine wp_1 rfl ?_
  refine wp_lv (lv' := [(2, .int 2), (3, .ref 172), (0, .ref 114), (1, .ref 168)]) rfl ?_
  iterate 5 refine wp_1 rfl ?_
  refine wp_get rfl (ss_in z168 rfl) rfl rfl ?_
  refine wp_1 rfl ?_
  refine wp_aald rfl (ss_out z171 rfl) rfl rfl ?_
  iterate 3 refine wp_1 rfl ?_
  refine wp_put rfl (ss_out z176 rfl) rfl rfl rfl ?_
  refine wp_1 rfl ?_
  refine wp_get rfl (ss_in z176 rfl) rfl rfl ?_
  iterate 3 refine wp_1 rfl ?_
  refine wp_put rfl (ss_in z176 rfl) rfl rfl rfl ?_
  iterate 2 refine wp_1 rfl ?_
  refine wp_put rfl (ss_in z176 rfl) rfl rfl rfl ?_
  iterate 2 refine wp_1 rfl ?_
  refine wp_put rfl (ss_in z176 rfl) rfl rfl rfl ?_
  iterate 2 refine wp_1 rfl ?_
  refine wp_put rfl (ss_in z176 rfl) rfl rfl rfl ?_
  iterate 2 refine wp_1 rfl ?_
  refine wp_put rfl (ss_in z176 rfl) rfl rfl rfl ?_
  iterate 2 refine wp_1 rfl ?_
  refine wp_put rfl (ss_in z176 rfl) rfl rfl rfl ?_
  iterate 2 refine wp_1 rfl ?_
  refine wp_put rfl (ss_in z176 rfl) rfl rfl rfl ?_
  refine wp_1 rfl ?_
  refine wp_lv (lv' := [(2, .int 3), (3, .ref 176), (0, .ref 114), (1, .ref 168)]) rfl ?_
  iterate 5 refine wp_1 rfl ?_
  refine wp_get rfl (ss_in z168 rfl) rfl rfl ?_
  refine wp_1 rfl ?_
  refine wp_aald rfl (ss_out z171 rfl) rfl rfl ?_
  iterate 3 refine wp_1 rfl ?_
  refine wp_put rfl (ss_out z180 rfl) rfl rfl rfl ?_
  refine wp_1 rfl ?_
  refine wp_get rfl (ss_in z180 rfl) rfl rfl ?_
  iterate 3 refine wp_1 rfl ?_
  refine wp_put rfl (ss_in z180 rfl) rfl rfl rfl ?_
  iterate 2 refine wp_1 rfl ?_
  refine wp_put rfl (ss_in z180 rfl) rfl rfl rfl ?_
  iterate 2 refine wp_1 rfl ?_
  refine wp_put rfl (ss_in z180 rfl) rfl rfl rfl ?_
  iterate 2 refine wp_1 rfl ?_
  refine wp_put rfl (ss_in z180 rfl) rfl rfl rfl ?_
  iterate 2 refine wp_1 rfl ?_
  refine wp_put rfl (ss_in z180 rfl) rfl rfl rfl ?_
  iterate 2 refine wp_1 rfl ?_
  refine wp_put rfl (ss_in z180 rfl) rfl rfl rfl ?_
  iterate 2 refine wp_1 rfl ?_
  refine wp_put rfl (ss_in z180 rfl) rfl rfl rfl ?_
  refine wp_1 rfl ?_
  refine wp_lv (lv' := [(2, .int 4), (3, .ref 180), (0, .ref 114), (1, .ref 168)]) rfl ?_
  iterate 4 refine wp_1 rfl ?_
  refine wp_r rfl ?_
  refine wp_1 rfl ?_
  refine wp_lv (lv' := [(2, .int 3), (0, .ref 114), (1, .int n)]) rfl ?_
  iterate 6 refine wp_1 rfl ?_
  refine wp_get rfl (ss_in z114 rfl) rfl rfl ?_
  refine wp_1 rfl ?_
  refine wp_aald rfl (ss_out z115 rfl) rfl rfl ?_
  refine wp_callV rfl rfl (ss_in z114 rfl) rfl rfl rfl ?_
  iterate 2 refine wp_1 rfl ?_
  refine wp_put rfl (ss_out z184 rfl) rfl rfl rfl ?_
  iterate 2 refine wp_1 rfl ?_
  refine wp_put rfl (ss_in z184 rfl) rfl rfl rfl ?_
  iterate 2 refine wp_1 rfl ?_
  refine wp_put rfl (ss_in z184 rfl) rfl rfl rfl ?_
  iterate 6 refine wp_1 rfl ?_
  refine wp_get rfl (ss_in z184 rfl) rfl rfl ?_
  refine wp_1 rfl ?_
  refine wp_aald rfl (ss_out z187 rfl) rfl rfl ?_
  iterate 3 refine wp_1 rfl ?_
  refine wp_put rfl (ss_out z188 rfl) rfl rfl rfl ?_
  refine wp_1 rfl ?_
  refine wp_get rfl (ss_in z188 rfl) rfl rfl ?_
  iterate 3 refine wp_1 rfl ?_
  refine wp_put rfl (ss_in z188 rfl) rfl rfl rfl ?_
  iterate 2 refine wp_1 rfl ?_
  refine wp_put rfl (ss_in z188 rfl) rfl rfl rfl ?_
  iterate 2 refine wp_1 rfl ?_
  refine wp_put rfl (ss_in z188 rfl) rfl rfl rfl ?_
  iterate 2 refine wp_1 rfl ?_
  refine wp_put rfl (ss_in z188 rfl) rfl rfl rfl ?_
  iterate 2 refine wp_1 rfl ?_
  refine wp_put rfl (ss_in z188 rfl) rfl rfl rfl ?_
  iterate 2 refine wp_1 rfl ?_
  refine wp_put rfl (ss_in z188 rfl) rfl rfl rfl ?_
  iterate 2 refine wp_1 rfl ?_
  refine wp_put rfl (ss_in z188 rfl) rfl rfl rfl ?_
  refine wp_1 rfl ?_
  refine wp_lv (lv' := [(2, .int 2), (3, .ref 188), (0, .ref 114), (1, .ref 184)]) rfl ?_
  iterate 5 refine wp_1 rfl ?_
  refine wp_get rfl (ss_in z184 rfl) rfl rfl ?_
  refine wp_1 rfl ?_
  refine wp_aald rfl (ss_out z187 rfl) rfl rfl ?_
  iterate 3 refine wp_1 rfl ?_
  refine wp_put rfl (ss_out z192 rfl) rfl rfl rfl ?_
  refine wp_1 rfl ?_
  refine wp_get rfl (ss_in z192 rfl) rfl rfl ?_
  iterate 3 refine wp_1 rfl ?_
  refine wp_put rfl (ss_in z192 rfl) rfl rfl rfl ?_
  iterate 2 refine wp_1 rfl ?_
  refine wp_put rfl (ss_in z192 rfl) rfl rfl rfl ?_
  iterate 2 refine wp_1 rfl ?_
  refine wp_put rfl (ss_in z192 rfl) rfl rfl rfl ?_
  iterate 2 refine wp_1 rfl ?_
  refine wp_put rfl (ss_in z192 rfl) rfl rfl rfl ?_
  iterate 2 refine wp_1 rfl ?_
  refine wp_put rfl (ss_in z192 rfl) rfl rfl rfl ?_
  iterate 2 refine wp_1 rfl ?_
  refine wp_put rfl (ss_in z192 rfl) rfl rfl rfl ?_
  iterate 2 refine wp_1 rfl ?_
  refine wp_put rfl (ss_in z192 rfl) rfl rfl rfl ?_
  refine wp_1 rfl ?_
  refine wp_lv (lv' := [(2, .int 3), (3, .ref 192), (0, .ref 114), (1, .ref 184)]) rfl ?_
  iterate 5 refine wp_1 rfl ?_
  refine wp_get rfl (ss_in z184 rfl) rfl rfl ?_
  refine wp_1 rfl ?_
  refine wp_aald rfl (ss_out z187 rfl) rfl rfl ?_
  iterate 3 refine wp_1 rfl ?_
  refine wp_put rfl (ss_out z196 rfl) rfl rfl rfl ?_
  refine wp_1 rfl ?_
  refine wp_get rfl (ss_in z196 rfl) rfl rfl ?_
  iterate 3 refine wp_1 rfl ?_
  refine wp_put rfl (ss_in z196 rfl) rfl rfl rfl ?_
  iterate 2 refine wp_1 rfl ?_
  refine wp_put rfl (ss_in z196 rfl) rfl rfl rfl ?_
  iterate 2 refine wp_1 rfl ?_
  refine wp_put rfl (ss_in z196 rfl) rfl rfl rfl ?_
  iterate 2 refine wp_1 rfl ?_
  refine wp_put rfl (ss_in z196 rfl) rfl rfl rfl ?_
  iterate 2 refine wp_1 rfl ?_
  refine wp_put rfl (ss_in z196 rfl) rfl rfl rfl ?_
  iterate 2 refine wp_1 rfl ?_
  refine wp_put rfl (ss_in z196 rfl) rfl rfl rfl ?_
  iterate 2 refine wp_1 rfl ?_
  refine wp_put rfl (ss_in z196 rfl) rfl rfl rfl ?_
  refine wp_1 rfl ?_
  refine wp_lv (lv' := [(2, .int 4), (3, .ref 196), (0, .ref 114), (1, .ref 184)]) rfl ?_
  iterate 4 refine wp_1 rfl ?_
  refine wp_r rfl ?_
  refine wp_1 rfl ?_
  refine wp_lv (lv' := [(2, .int 4), (0, .ref 114), (1, .int n)]) rfl ?_
  iterate 7 refine wp_1 rfl ?_
  refine wp_get rfl (ss_in z114 rfl) rfl rfl ?_
  refine wp_1 rfl ?_
  refine wp_pc (if_pos b1) ?_
  refine wp_1 rfl ?_
  refine wp_get rfl (ss_in z114 rfl) rfl rfl ?_
  refine wp_callV rfl rfl (ss_in z114 rfl) rfl rfl rfl ?_
  iterate 9 refine wp_1 rfl ?_
  refine wp_get rfl (ss_in z114 rfl) rfl rfl ?_
  iterate 3 refine wp_1 rfl ?_
  refine wp_get rfl (ss_in z114 rfl) rfl rfl ?_
  iterate 2 refine wp_1 rfl ?_
  refine wp_put rfl (ss_in z114 rfl) rfl rfl rfl ?_
  refine wp_r rfl ?_
  iterate 2 refine wp_1 rfl ?_
  refine wp_put rfl (ss_in z114 rfl) rfl rfl rfl ?_
  iterate 2 refine wp_1 rfl ?_
  refine wp_put rfl (ss_in z114 rfl) rfl rfl rfl ?_
  iterate 2 refine wp_1 rfl ?_
  refine wp_put rfl (ss_in z114 rfl) rfl rfl rfl ?_
  iterate 2 refine wp_1 rfl ?_
  refine wp_put rfl (ss_in z114 rfl) rfl rfl rfl ?_
  iterate 2 refine wp_1 rfl ?_
  refine wp_get rfl (ss_in z114 rfl) rfl rfl ?_
  refine wp_put rfl (ss_in z114 rfl) rfl rfl rfl ?_
  iterate 4 refine wp_1 rfl ?_
  refine wp_get rfl (ss_in z114 rfl) rfl rfl ?_
  iterate 3 refine wp_1 rfl ?_
  refine wp_get rfl (ss_in z114 rfl) rfl rfl ?_
  refine wp_put rfl (ss_in z114 rfl) rfl rfl rfl ?_
  iterate 4 refine wp_1 rfl ?_
  refine wp_get rfl (ss_in z114 rfl) rfl rfl ?_
  iterate 3 refine wp_1 rfl ?_
  refine wp_get rfl (ss_in z114 rfl) rfl rfl ?_
  refine wp_put rfl (ss_in z114 rfl) rfl rfl rfl ?_
  iterate 4 refine wp_1 rfl ?_
  refine wp_get rfl (ss_in z114 rfl) rfl rfl ?_
  iterate 2 refine wp_1 rfl ?_
  refine wp_get rfl (ss_in z114 rfl) rfl rfl ?_
  iterate 2 refine wp_1 rfl ?_
  refine wp_anew rfl rfl hlen ?_
  refine wp_ov ?_
  iterate 8 refine wp_1 rfl ?_
  refine wp_put rfl (ss_out (app_at (ss_in z114 rfl)) rfl) rfl rfl rfl ?_
  iterate 7 refine wp_1 rfl ?_
  refine wp_put rfl (ss_in (app_at (ss_in z114 rfl)) rfl) rfl rfl rfl ?_
  refine wp_1 rfl ?_
  refine wp_get rfl (ss_in (app_at (ss_in z114 rfl)) rfl) rfl rfl ?_
  refine wp_r rfl ⟨_, _, rfl, (ss_in (app_at (ss_in z114 rfl)) rfl), ?_⟩
  refine wp_1 rfl ?_
  refine wp_get rfl (ss_in (app_at (ss_in z114 rfl)) rfl) rfl rfl ?_
  exact wp_r rfl ⟨rfl, ⟨_, (ss_out (app_at (ss_out z200 rfl)) rfl), _, rfl, rfl⟩, Nat.le_of_ble_eq_true rfl, Nat.le_of_ble_eq_true rfl⟩
theorem cr_all {n : Int32} (hl : x_hL.length = 201) (b0 : ¬ n < 0) : x_norm 493 482 [.int n] x_hL (fun v w => ∃ i : Int32, v = .int i ∧ i.toInt64 = w) 10 100 := by
  have hz : x_inv x_hL x_LC := x_invb_ok (by decide +kernel)
  have b2 : 0 ≤ n := by
    rw [Int32.lt_iff_toInt_lt] at b0
    rw [Int32.le_iff_toInt_le]
    omega
  unfold x_norm
  by_cases b1 : n ≤ 0
  · refine cr_Hz hz b0 b1 (fun h' e hz' => ?_)
    exact ⟨rfl, ⟨_, (x_inv_1 hz')⟩, Nat.le_of_ble_eq_true rfl, Nat.le_of_ble_eq_true rfl, cr_M hz' (by rw [e, hl]; decide) b0 b2⟩
  · refine cr_Hp hz b0 b1 (fun h' e hz' => ?_)
    exact ⟨rfl, ⟨_, (x_inv_1 hz')⟩, Nat.le_of_ble_eq_true rfl, Nat.le_of_ble_eq_true rfl, cr_M hz' (by rw [e, hl]; decide) b0 b2⟩
end XCrash
