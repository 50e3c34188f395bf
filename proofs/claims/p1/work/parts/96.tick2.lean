section XTickM
set_option maxHeartbeats 4000000 in
theorem tk_m0 {h : xH} {c a b k i n : Int32} {w : List (Nat × Value)} {Z : Option Value → xH → Nat → Nat → Prop} (hz : x_inv h (x_LT c a b k w)) (b0 : ¬ n ≤ i) (hK : ∀ (h' : xH) (y' : Int32), x_inv h' (x_LT c a b (k + 1) w) → x_WP 12 471 31 [(2, .int (i + 1)), (3, .int y'), (0, .ref 114), (1, .int n)] [] h' 0 0 Z) : x_WP 12 471 31 [(2, .int i), (0, .ref 114), (1, .int n)] [] h 0 0 Z := by
  obtain ⟨z0, z2, z5, z8, z9, z11, z12, z18, z19, z27, z31, z32, z36, z37, z41, z42, z43, z51, z55, z56, z60, z61, z65, z66, z67, z75, z79, z80, z84, z85, z89, z90, z91, z99, z103, z104, z108, z109, z113, z114, z115, z136, z139, z140, z144, z148, z152, z155, z156, z160, z164, z168, z171, z172, z176, z180, z184, z187, z188, z192, z196, z200, -⟩ := hz
  refine wp_ov ?_
  iterate 3 refine wp_1 rfl ?_
  refine wp_pc (if_neg b0) ?_
  iterate 2 refine wp_1 rfl ?_
  refine wp_get rfl (ss_out z114 rfl) rfl rfl ?_
  refine wp_callV rfl rfl (ss_out z114 rfl) rfl rfl rfl ?_
  iterate 9 refine wp_1 rfl ?_
  refine wp_get rfl (ss_out z114 rfl) rfl rfl ?_
  iterate 3 refine wp_1 rfl ?_
  refine wp_get rfl (ss_out z114 rfl) rfl rfl ?_
  iterate 2 refine wp_1 rfl ?_
  refine wp_put rfl (ss_out z114 rfl) rfl rfl rfl ?_
  refine wp_r rfl ?_
  refine wp_1 rfl ?_
  refine wp_callV rfl rfl (ss_in z114 rfl) rfl rfl rfl ?_
  iterate 11 refine wp_1 rfl ?_
  refine wp_get rfl (ss_in z114 rfl) rfl rfl ?_
  refine wp_1 rfl ?_
  refine wp_aald rfl (ss_out z115 rfl) rfl rfl ?_
  refine wp_get rfl (ss_out z136 rfl) rfl rfl ?_
  refine wp_1 rfl ?_
  refine wp_aald rfl (ss_out z139 rfl) rfl rfl ?_
  iterate 2 refine wp_1 rfl ?_
  refine wp_get rfl (ss_out z140 rfl) rfl rfl ?_
  iterate 8 refine wp_1 rfl ?_
  refine wp_put rfl (ss_out z140 rfl) rfl rfl rfl ?_
  refine wp_1 rfl ?_
  refine wp_lv (lv' := [(2, .int 2), (5, .int 0), (4, .int 0), (3, .ref 140), (1, .int 0), (0, .ref 114)]) rfl ?_
  iterate 5 refine wp_1 rfl ?_
  refine wp_get rfl (ss_in z114 rfl) rfl rfl ?_
  refine wp_1 rfl ?_
  refine wp_aald rfl (ss_out z115 rfl) rfl rfl ?_
  refine wp_get rfl (ss_out z136 rfl) rfl rfl ?_
  refine wp_1 rfl ?_
  refine wp_aald rfl (ss_out z139 rfl) rfl rfl ?_
  iterate 2 refine wp_1 rfl ?_
  refine wp_get rfl (ss_out z144 rfl) rfl rfl ?_
  iterate 8 refine wp_1 rfl ?_
  refine wp_put rfl (ss_out z144 rfl) rfl rfl rfl ?_
  refine wp_1 rfl ?_
  refine wp_lv (lv' := [(2, .int 3), (5, .int 0), (4, .int 0), (3, .ref 144), (1, .int 0), (0, .ref 114)]) rfl ?_
  iterate 5 refine wp_1 rfl ?_
  refine wp_get rfl (ss_in z114 rfl) rfl rfl ?_
  refine wp_1 rfl ?_
  refine wp_aald rfl (ss_out z115 rfl) rfl rfl ?_
  refine wp_get rfl (ss_out z136 rfl) rfl rfl ?_
  refine wp_1 rfl ?_
  refine wp_aald rfl (ss_out z139 rfl) rfl rfl ?_
  iterate 2 refine wp_1 rfl ?_
  refine wp_get rfl (ss_out z148 rfl) rfl rfl ?_
  iterate 8 refine wp_1 rfl ?_
  refine wp_put rfl (ss_out z148 rfl) rfl rfl rfl ?_
  refine wp_1 rfl ?_
  refine wp_lv (lv' := [(2, .int 4), (5, .int 0), (4, .int 0), (3, .ref 148), (1, .int 0), (0, .ref 114)]) rfl ?_
  iterate 5 refine wp_1 rfl ?_
  refine wp_lv (lv' := [(1, .int 1), (2, .int 4), (5, .int 0), (4, .int 0), (3, .ref 148), (0, .ref 114)]) rfl ?_
  iterate 10 refine wp_1 rfl ?_
  refine wp_get rfl (ss_in z114 rfl) rfl rfl ?_
  refine wp_1 rfl ?_
  refine wp_aald rfl (ss_out z115 rfl) rfl rfl ?_
  refine wp_get rfl (ss_out z152 rfl) rfl rfl ?_
  refine wp_1 rfl ?_
  refine wp_aald rfl (ss_out z155 rfl) rfl rfl ?_
  iterate 2 refine wp_1 rfl ?_
  refine wp_get rfl (ss_out z156 rfl) rfl rfl ?_
  iterate 8 refine wp_1 rfl ?_
  refine wp_put rfl (ss_out z156 rfl) rfl rfl rfl ?_
  refine wp_1 rfl ?_
  refine wp_lv (lv' := [(2, .int 2), (5, .int 0), (4, .int 0), (3, .ref 156), (1, .int 1), (0, .ref 114)]) rfl ?_
  iterate 5 refine wp_1 rfl ?_
  refine wp_get rfl (ss_in z114 rfl) rfl rfl ?_
  refine wp_1 rfl ?_
  refine wp_aald rfl (ss_out z115 rfl) rfl rfl ?_
  refine wp_get rfl (ss_out z152 rfl) rfl rfl ?_
  refine wp_1 rfl ?_
  refine wp_aald rfl (ss_out z155 rfl) rfl rfl ?_
  iterate 2 refine wp_1 rfl ?_
  refine wp_get rfl (ss_out z160 rfl) rfl rfl ?_
  iterate 8 refine wp_1 rfl ?_
  refine wp_put rfl (ss_out z160 rfl) rfl rfl rfl ?_
  refine wp_1 rfl ?_
  refine wp_lv (lv' := [(2, .int 3), (5, .int 0), (4, .int 0), (3, .ref 160), (1, .int 1), (0, .ref 114)]) rfl ?_
  iterate 5 refine wp_1 rfl ?_
  refine wp_get rfl (ss_in z114 rfl) rfl rfl ?_
  refine wp_1 rfl ?_
  refine wp_aald rfl (ss_out z115 rfl) rfl rfl ?_
  refine wp_get rfl (ss_out z152 rfl) rfl rfl ?_
  refine wp_1 rfl ?_
  refine wp_aald rfl (ss_out z155 rfl) rfl rfl ?_
  iterate 2 refine wp_1 rfl ?_
  refine wp_get rfl (ss_out z164 rfl) rfl rfl ?_
  iterate 8 refine wp_1 rfl ?_
  refine wp_put rfl (ss_out z164 rfl) rfl rfl rfl ?_
  refine wp_1 rfl ?_
  refine wp_lv (lv' := [(2, .int 4), (5, .int 0), (4, .int 0), (3, .ref 164), (1, .int 1), (0, .ref 114)]) rfl ?_
  iterate 5 refine wp_1 rfl ?_
  refine wp_lv (lv' := [(1, .int 2), (2, .int 4), (5, .int 0), (4, .int 0), (3, .ref 164), (0, .ref 114)]) rfl ?_
  iterate 10 refine wp_1 rfl ?_
  refine wp_get rfl (ss_in z114 rfl) rfl rfl ?_
  refine wp_1 rfl ?_
  refine wp_aald rfl (ss_out z115 rfl) rfl rfl ?_
  refine wp_get rfl (ss_out z168 rfl) rfl rfl ?_
  refine wp_1 rfl ?_
  refine wp_aald rfl (ss_out z171 rfl) rfl rfl ?_
  iterate 2 refine wp_1 rfl ?_
  refine wp_get rfl (ss_out z172 rfl) rfl rfl ?_
  iterate 8 refine wp_1 rfl ?_
  refine wp_put rfl (ss_out z172 rfl) rfl rfl rfl ?_
  refine wp_1 rfl ?_
  refine wp_lv (lv' := [(2, .int 2), (5, .int 0), (4, .int 0), (3, .ref 172), (1, .int 2), (0, .ref 114)]) rfl ?_
  iterate 5 refine wp_1 rfl ?_
  refine wp_get rfl (ss_in z114 rfl) rfl rfl ?_
  refine wp_1 rfl ?_
  refine wp_aald rfl (ss_out z115 rfl) rfl rfl ?_
  refine wp_get rfl (ss_out z168 rfl) rfl rfl ?_
  refine wp_1 rfl ?_
  refine wp_aald rfl (ss_out z171 rfl) rfl rfl ?_
  iterate 2 refine wp_1 rfl ?_
  refine wp_get rfl (ss_out z176 rfl) rfl rfl ?_
  iterate 8 refine wp_1 rfl ?_
  refine wp_put rfl (ss_out z176 rfl) rfl rfl rfl ?_
  refine wp_1 rfl ?_
  refine wp_lv (lv' := [(2, .int 3), (5, .int 0), (4, .int 0), (3, .ref 176), (1, .int 2), (0, .ref 114)]) rfl ?_
  iterate 5 refine wp_1 rfl ?_
  refine wp_get rfl (ss_in z114 rfl) rfl rfl ?_
  refine wp_1 rfl ?_
  refine wp_aald rfl (ss_out z115 rfl) rfl rfl ?_
  refine wp_get rfl (ss_out z168 rfl) rfl rfl ?_
  refine wp_1 rfl ?_
  refine wp_aald rfl (ss_out z171 rfl) rfl rfl ?_
  iterate 2 refine wp_1 rfl ?_
  refine wp_get rfl (ss_out z180 rfl) rfl rfl ?_
  iterate 8 refine wp_1 rfl ?_
  refine wp_put rfl (ss_out z180 rfl) rfl rfl rfl ?_
  refine wp_1 rfl ?_
  refine wp_lv (lv' := [(2, .int 4), (5, .int 0), (4, .int 0), (3, .ref 180), (1, .int 2), (0, .ref 114)]) rfl ?_
  iterate 5 refine wp_1 rfl ?_
  refine wp_lv (lv' := [(1, .int 3), (2, .int 4), (5, .int 0), (4, .int 0), (3, .ref 180), (0, .ref 114)]) rfl ?_
  iterate 10 refine wp_1 rfl ?_
  refine wp_get rfl (ss_in z114 rfl) rfl rfl ?_
  refine wp_1 rfl ?_
  refine wp_aald rfl (ss_out z115 rfl) rfl rfl ?_
  refine wp_get rfl (ss_out z184 rfl) rfl rfl ?_
  refine wp_1 rfl ?_
  refine wp_aald rfl (ss_out z187 rfl) rfl rfl ?_
  iterate 2 refine wp_1 rfl ?_
  refine wp_get rfl (ss_out z188 rfl) rfl rfl ?_
  iterate 8 refine wp_1 rfl ?_
  refine wp_put rfl (ss_out z188 rfl) rfl rfl rfl ?_
  refine wp_1 rfl ?_
  refine wp_lv (lv' := [(2, .int 2), (5, .int 0), (4, .int 0), (3, .ref 188), (1, .int 3), (0, .ref 114)]) rfl ?_
  iterate 5 refine wp_1 rfl ?_
  refine wp_get rfl (ss_in z114 rfl) rfl rfl ?_
  refine wp_1 rfl ?_
  refine wp_aald rfl (ss_out z115 rfl) rfl rfl ?_
  refine wp_get rfl (ss_out z184 rfl) rfl rfl ?_
  refine wp_1 rfl ?_
  refine wp_aald rfl (ss_out z187 rfl) rfl rfl ?_
  iterate 2 refine wp_1 rfl ?_
  refine wp_get rfl (ss_out z192 rfl) rfl rfl ?_
  iterate 8 refine wp_1 rfl ?_
  refine wp_put rfl (ss_out z192 rfl) rfl rfl rfl ?_
  refine wp_1 rfl ?_
  refine wp_lv (lv' := [(2, .int 3), (5, .int 0), (4, .int 0), (3, .ref 192), (1, .int 3), (0, .ref 114)]) rfl ?_
  iterate 5 refine wp_1 rfl ?_
  refine wp_get rfl (ss_in z114 rfl) rfl rfl ?_
  refine wp_1 rfl ?_
  refine wp_aald rfl (ss_out z115 rfl) rfl rfl ?_
  refine wp_get rfl (ss_out z184 rfl) rfl rfl ?_
  refine wp_1 rfl ?_
  refine wp_aald rfl (ss_out z187 rfl) rfl rfl ?_
  iterate 2 refine wp_1 rfl ?_
  refine wp_get rfl (ss_out z196 rfl) rfl rfl ?_
  iterate 8 refine wp_1 rfl ?_
  refine wp_put rfl (ss_out z196 rfl) rfl rfl rfl ?_
  refine wp_1 rfl ?_
  refine wp_lv (lv' := [(2, .int 4), (5, .int 0), (4, .int 0), (3, .ref 196), (1, .int 3), (0, .ref 114)]) rfl ?_
  iterate 5 refine wp_1 rfl ?_
  refine wp_lv (lv' := [(1, .int 4), (2, .int 4), (5, .int 0), (4, .int 0), (3, .ref 196), (0, .ref 114)]) rfl ?_
  iterate 4 refine wp_1 rfl ?_
  refine wp_r rfl ?_
  iterate 2 refine wp_1 rfl ?_
  refine wp_get rfl (ss_in z114 rfl) rfl rfl ?_
  iterate 2 refine wp_1 rfl ?_
  refine wp_put rfl (ss_in z114 rfl) rfl rfl rfl ?_
  refine wp_1 rfl ?_
  refine wp_callV rfl rfl (ss_in z114 rfl) rfl rfl rfl ?_
  iterate 4 refine wp_1 rfl ?_
  refine wp_get rfl (ss_in z114 rfl) rfl rfl ?_
  refine wp_1 rfl ?_
  refine wp_r rfl ?_
  iterate 7 refine wp_1 rfl ?_
  refine wp_get rfl (ss_in z114 rfl) rfl rfl ?_
  refine wp_1 rfl ?_
  refine wp_aald rfl (ss_out z115 rfl) rfl rfl ?_
  refine wp_callV rfl rfl (ss_in z114 rfl) rfl rfl rfl ?_
  refine wp_1 rfl ?_
  refine wp_get rfl (ss_out z136 rfl) rfl rfl ?_
  iterate 3 refine wp_1 rfl ?_
  refine wp_get rfl (ss_out z136 rfl) rfl rfl ?_
  iterate 2 refine wp_1 rfl ?_
  refine wp_r rfl ?_
  refine wp_1 rfl ?_
  refine wp_lv (lv' := [(3, .int 1), (2, .int i), (0, .ref 114), (1, .int n)]) rfl ?_
  iterate 6 refine wp_1 rfl ?_
  refine wp_get rfl (ss_in z114 rfl) rfl rfl ?_
  refine wp_1 rfl ?_
  refine wp_aald rfl (ss_out z115 rfl) rfl rfl ?_
  refine wp_callV rfl rfl (ss_in z114 rfl) rfl rfl rfl ?_
  refine wp_1 rfl ?_
  refine wp_get rfl (ss_out z152 rfl) rfl rfl ?_
  iterate 3 refine wp_1 rfl ?_
  refine wp_get rfl (ss_out z152 rfl) rfl rfl ?_
  iterate 2 refine wp_1 rfl ?_
  refine wp_r rfl ?_
  refine wp_1 rfl ?_
  refine wp_lv (lv' := [(3, .int 2), (2, .int i), (0, .ref 114), (1, .int n)]) rfl ?_
  iterate 6 refine wp_1 rfl ?_
  refine wp_get rfl (ss_in z114 rfl) rfl rfl ?_
  refine wp_1 rfl ?_
  refine wp_aald rfl (ss_out z115 rfl) rfl rfl ?_
  refine wp_callV rfl rfl (ss_in z114 rfl) rfl rfl rfl ?_
  refine wp_1 rfl ?_
  refine wp_get rfl (ss_out z168 rfl) rfl rfl ?_
  iterate 3 refine wp_1 rfl ?_
  refine wp_get rfl (ss_out z168 rfl) rfl rfl ?_
  iterate 2 refine wp_1 rfl ?_
  refine wp_r rfl ?_
  refine wp_1 rfl ?_
  refine wp_lv (lv' := [(3, .int 3), (2, .int i), (0, .ref 114), (1, .int n)]) rfl ?_
  iterate 6 refine wp_1 rfl ?_
  refine wp_get rfl (ss_in z114 rfl) rfl rfl ?_
  refine wp_1 rfl ?_
  refine wp_aald rfl (ss_out z115 rfl) rfl rfl ?_
  refine wp_callV rfl rfl (ss_in z114 rfl) rfl rfl rfl ?_
  refine wp_1 rfl ?_
  refine wp_get rfl (ss_out z184 rfl) rfl rfl ?_
  iterate 3 refine wp_1 rfl ?_
  refine wp_get rfl (ss_out z184 rfl) rfl rfl ?_
  iterate 2 refine wp_1 rfl ?_
  refine wp_r rfl ?_
  refine wp_1 rfl ?_
  refine wp_lv (lv' := [(3, .int 4), (2, .int i), (0, .ref 114), (1, .int n)]) rfl ?_
  iterate 5 refine wp_1 rfl ?_
  refine wp_callV rfl rfl (ss_in z114 rfl) rfl rfl rfl ?_
  iterate 5 refine wp_1 rfl ?_
  refine wp_callV rfl rfl (ss_in z114 rfl) rfl rfl rfl ?_
  refine wp_1 rfl ?_
  refine wp_get rfl (ss_in z114 rfl) rfl rfl ?_
  iterate 5 refine wp_1 rfl ?_
  refine wp_get rfl (ss_in z114 rfl) rfl rfl ?_
  iterate 2 refine wp_1 rfl ?_
  refine wp_r rfl ?_
  iterate 4 refine wp_1 rfl ?_
  refine wp_r rfl ?_
  refine wp_1 rfl ?_
  refine wp_lv (lv' := [(2, .int (i + 1)), (3, .int 4), (0, .ref 114), (1, .int n)]) rfl ?_
  refine wp_1 rfl ?_
  refine hK _ _ ?_
  exact (x_inv_c (ss_out z0 rfl) <| x_inv_c (ss_out z2 rfl) <| x_inv_c (ss_out z5 rfl) <| x_inv_c (ss_out z8 rfl) <| x_inv_c (ss_out z9 rfl) <| x_inv_c (ss_out z11 rfl) <| x_inv_c (ss_out z12 rfl) <| x_inv_c (ss_out z18 rfl) <| x_inv_c (ss_out z19 rfl) <| x_inv_c (ss_out z27 rfl) <| x_inv_c (ss_out z31 rfl) <| x_inv_c (ss_out z32 rfl) <| x_inv_c (ss_out z36 rfl) <| x_inv_c (ss_out z37 rfl) <| x_inv_c (ss_out z41 rfl) <| x_inv_c (ss_out z42 rfl) <| x_inv_c (ss_out z43 rfl) <| x_inv_c (ss_out z51 rfl) <| x_inv_c (ss_out z55 rfl) <| x_inv_c (ss_out z56 rfl) <| x_inv_c (ss_out z60 rfl) <| x_inv_c (ss_out z61 rfl) <| x_inv_c (ss_out z65 rfl) <| x_inv_c (ss_out z66 rfl) <| x_inv_c (ss_out z67 rfl) <| x_inv_c (ss_out z75 rfl) <| x_inv_c (ss_out z79 rfl) <| x_inv_c (ss_out z80 rfl) <| x_inv_c (ss_out z84 rfl) <| x_inv_c (ss_out z85 rfl) <| x_inv_c (ss_out z89 rfl) <| x_inv_c (ss_out z90 rfl) <| x_inv_c (ss_out z91 rfl) <| x_inv_c (ss_out z99 rfl) <| x_inv_c (ss_out z103 rfl) <| x_inv_c (ss_out z104 rfl) <| x_inv_c (ss_out z108 rfl) <| x_inv_c (ss_out z109 rfl) <| x_inv_c (ss_out z113 rfl) <| x_inv_c (ss_in z114 rfl) <| x_inv_c (ss_out z115 rfl) <| x_inv_c (ss_out z136 rfl) <| x_inv_c (ss_out z139 rfl) <| x_inv_c (ss_in z140 rfl) <| x_inv_c (ss_in z144 rfl) <| x_inv_c (ss_in z148 rfl) <| x_inv_c (ss_out z152 rfl) <| x_inv_c (ss_out z155 rfl) <| x_inv_c (ss_in z156 rfl) <| x_inv_c (ss_in z160 rfl) <| x_inv_c (ss_in z164 rfl) <| x_inv_c (ss_out z168 rfl) <| x_inv_c (ss_out z171 rfl) <| x_inv_c (ss_in z172 rfl) <| x_inv_c (ss_in z176 rfl) <| x_inv_c (ss_in z180 rfl) <| x_inv_c (ss_out z184 rfl) <| x_inv_c (ss_out z187 rfl) <| x_inv_c (ss_in z188 rfl) <| x_inv_c (ss_in z192 rfl) <| x_inv_c (ss_in z196 rfl) <| x_inv_c (ss_out z200 rfl) <| x_inv_n)
set_option maxHeartbeats 4000000 in
theorem tk_m1 {h : xH} {c a b k i n y : Int32} {w : List (Nat × Value)} {Z : Option Value → xH → Nat → Nat → Prop} (hz : x_inv h (x_LT c a b k w)) (b0 : ¬ n ≤ i) (hK : ∀ (h' : xH) (y' : Int32), x_inv h' (x_LT c a b (k + 1) w) → x_WP 12 471 31 [(2, .int (i + 1)), (3, .int y'), (0, .ref 114), (1, .int n)] [] h' 0 0 Z) : x_WP 12 471 31 [(2, .int i), (3, .int y), (0, .ref 114), (1, .int n)] [] h 0 0 Z := by
  obtain ⟨z0, z2, z5, z8, z9, z11, z12, z18, z19, z27, z31, z32, z36, z37, z41, z42, z43, z51, z55, z56, z60, z61, z65, z66, z67, z75, z79, z80, z84, z85, z89, z90, z91, z99, z103, z104, z108, z109, z113, z114, z115, z136, z139, z140, z144, z148, z152, z155, z156, z160, z164, z168, z171, z172, z176, z180, z184, z187, z188, z192, z196, z200, -⟩ := hz
  refine wp_ov ?_
  iterate 3 refine wp_1 rfl ?_
  refine wp_pc (if_neg b0) ?_
  iterate 2 refine wp_1 rfl ?_
  refine wp_get rfl (ss_out z114 rfl) rfl rfl ?_
  refine wp_callV rfl rfl (ss_out z114 rfl) rfl rfl rfl ?_
  iterate 9 refine wp_1 rfl ?_
  refine wp_get rfl (ss_out z114 rfl) rfl rfl ?_
  iterate 3 refine wp_1 rfl ?_
  refine wp_get rfl (ss_out z114 rfl) rfl rfl ?_
  iterate 2 refine wp_1 rfl ?_
  refine wp_put rfl (ss_out z114 rfl) rfl rfl rfl ?_
  refine wp_r rfl ?_
  refine wp_1 rfl ?_
  refine wp_callV rfl rfl (ss_in z114 rfl) rfl rfl rfl ?_
  iterate 11 refine wp_1 rfl ?_
  refine wp_get rfl (ss_in z114 rfl) rfl rfl ?_
  refine wp_1 rfl ?_
  refine wp_aald rfl (ss_out z115 rfl) rfl rfl ?_
  refine wp_get rfl (ss_out z136 rfl) rfl rfl ?_
  refine wp_1 rfl ?_
  refine wp_aald rfl (ss_out z139 rfl) rfl rfl ?_
  iterate 2 refine wp_1 rfl ?_
  refine wp_get rfl (ss_out z140 rfl) rfl rfl ?_
  iterate 8 refine wp_1 rfl ?_
  refine wp_put rfl (ss_out z140 rfl) rfl rfl rfl ?_
  refine wp_1 rfl ?_
  refine wp_lv (lv' := [(2, .int 2), (5, .int 0), (4, .int 0), (3, .ref 140), (1, .int 0), (0, .ref 114)]) rfl ?_
  iterate 5 refine wp_1 rfl ?_
  refine wp_get rfl (ss_in z114 rfl) rfl rfl ?_
  refine wp_1 rfl ?_
  refine wp_aald rfl (ss_out z115 rfl) rfl rfl ?_
  refine wp_get rfl (ss_out z136 rfl) rfl rfl ?_
  refine wp_1 rfl ?_
  refine wp_aald rfl (ss_out z139 rfl) rfl rfl ?_
  iterate 2 refine wp_1 rfl ?_
  refine wp_get rfl (ss_out z144 rfl) rfl rfl ?_
  iterate 8 refine wp_1 rfl ?_
  refine wp_put rfl (ss_out z144 rfl) rfl rfl rfl ?_
  refine wp_1 rfl ?_
  refine wp_lv (lv' := [(2, .int 3), (5, .int 0), (4, .int 0), (3, .ref 144), (1, .int 0), (0, .ref 114)]) rfl ?_
  iterate 5 refine wp_1 rfl ?_
  refine wp_get rfl (ss_in z114 rfl) rfl rfl ?_
  refine wp_1 rfl ?_
  refine wp_aald rfl (ss_out z115 rfl) rfl rfl ?_
  refine wp_get rfl (ss_out z136 rfl) rfl rfl ?_
  refine wp_1 rfl ?_
  refine wp_aald rfl (ss_out z139 rfl) rfl rfl ?_
  iterate 2 refine wp_1 rfl ?_
  refine wp_get rfl (ss_out z148 rfl) rfl rfl ?_
  iterate 8 refine wp_1 rfl ?_
  refine wp_put rfl (ss_out z148 rfl) rfl rfl rfl ?_
  refine wp_1 rfl ?_
  refine wp_lv (lv' := [(2, .int 4), (5, .int 0), (4, .int 0), (3, .ref 148), (1, .int 0), (0, .ref 114)]) rfl ?_
  iterate 5 refine wp_1 rfl ?_
  refine wp_lv (lv' := [(1, .int 1), (2, .int 4), (5, .int 0), (4, .int 0), (3, .ref 148), (0, .ref 114)]) rfl ?_
  iterate 10 refine wp_1 rfl ?_
  refine wp_get rfl (ss_in z114 rfl) rfl rfl ?_
  refine wp_1 rfl ?_
  refine wp_aald rfl (ss_out z115 rfl) rfl rfl ?_
  refine wp_get rfl (ss_out z152 rfl) rfl rfl ?_
  refine wp_1 rfl ?_
  refine wp_aald rfl (ss_out z155 rfl) rfl rfl ?_
  iterate 2 refine wp_1 rfl ?_
  refine wp_get rfl (ss_out z156 rfl) rfl rfl ?_
  iterate 8 refine wp_1 rfl ?_
  refine wp_put rfl (ss_out z156 rfl) rfl rfl rfl ?_
  refine wp_1 rfl ?_
  refine wp_lv (lv' := [(2, .int 2), (5, .int 0), (4, .int 0), (3, .ref 156), (1, .int 1), (0, .ref 114)]) rfl ?_
  iterate 5 refine wp_1 rfl ?_
  refine wp_get rfl (ss_in z114 rfl) rfl rfl ?_
  refine wp_1 rfl ?_
  refine wp_aald rfl (ss_out z115 rfl) rfl rfl ?_
  refine wp_get rfl (ss_out z152 rfl) rfl rfl ?_
  refine wp_1 rfl ?_
  refine wp_aald rfl (ss_out z155 rfl) rfl rfl ?_
  iterate 2 refine wp_1 rfl ?_
  refine wp_get rfl (ss_out z160 rfl) rfl rfl ?_
  iterate 8 refine wp_1 rfl ?_
  refine wp_put rfl (ss_out z160 rfl) rfl rfl rfl ?_
  refine wp_1 rfl ?_
  refine wp_lv (lv' := [(2, .int 3), (5, .int 0), (4, .int 0), (3, .ref 160), (1, .int 1), (0, .ref 114)]) rfl ?_
  iterate 5 refine wp_1 rfl ?_
  refine wp_get rfl (ss_in z114 rfl) rfl rfl ?_
  refine wp_1 rfl ?_
  refine wp_aald rfl (ss_out z115 rfl) rfl rfl ?_
  refine wp_get rfl (ss_out z152 rfl) rfl rfl ?_
  refine wp_1 rfl ?_
  refine wp_aald rfl (ss_out z155 rfl) rfl rfl ?_
  iterate 2 refine wp_1 rfl ?_
  refine wp_get rfl (ss_out z164 rfl) rfl rfl ?_
  iterate 8 refine wp_1 rfl ?_
  refine wp_put rfl (ss_out z164 rfl) rfl rfl rfl ?_
  refine wp_1 rfl ?_
  refine wp_lv (lv' := [(2, .int 4), (5, .int 0), (4, .int 0), (3, .ref 164), (1, .int 1), (0, .ref 114)]) rfl ?_
  iterate 5 refine wp_1 rfl ?_
  refine wp_lv (lv' := [(1, .int 2), (2, .int 4), (5, .int 0), (4, .int 0), (3, .ref 164), (0, .ref 114)]) rfl ?_
  iterate 10 refine wp_1 rfl ?_
  refine wp_get rfl (ss_in z114 rfl) rfl rfl ?_
  refine wp_1 rfl ?_
  refine wp_aald rfl (ss_out z115 rfl) rfl rfl ?_
  refine wp_get rfl (ss_out z168 rfl) rfl rfl ?_
  refine wp_1 rfl ?_
  refine wp_aald rfl (ss_out z171 rfl) rfl rfl ?_
  iterate 2 refine wp_1 rfl ?_
  refine wp_get rfl (ss_out z172 rfl) rfl rfl ?_
  iterate 8 refine wp_1 rfl ?_
  refine wp_put rfl (ss_out z172 rfl) rfl rfl rfl ?_
  refine wp_1 rfl ?_
  refine wp_lv (lv' := [(2, .int 2), (5, .int 0), (4, .int 0), (3, .ref 172), (1, .int 2), (0, .ref 114)]) rfl ?_
  iterate 5 refine wp_1 rfl ?_
  refine wp_get rfl (ss_in z114 rfl) rfl rfl ?_
  refine wp_1 rfl ?_
  refine wp_aald rfl (ss_out z115 rfl) rfl rfl ?_
  refine wp_get rfl (ss_out z168 rfl) rfl rfl ?_
  refine wp_1 rfl ?_
  refine wp_aald rfl (ss_out z171 rfl) rfl rfl ?_
  iterate 2 refine wp_1 rfl ?_
  refine wp_get rfl (ss_out z176 rfl) rfl rfl ?_
  iterate 8 refine wp_1 rfl ?_
  refine wp_put rfl (ss_out z176 rfl) rfl rfl rfl ?_
  refine wp_1 rfl ?_
  refine wp_lv (lv' := [(2, .int 3), (5, .int 0), (4, .int 0), (3, .ref 176), (1, .int 2), (0, .ref 114)]) rfl ?_
  iterate 5 refine wp_1 rfl ?_
  refine wp_get rfl (ss_in z114 rfl) rfl rfl ?_
  refine wp_1 rfl ?_
  refine wp_aald rfl (ss_out z115 rfl) rfl rfl ?_
  refine wp_get rfl (ss_out z168 rfl) rfl rfl ?_
  refine wp_1 rfl ?_
  refine wp_aald rfl (ss_out z171 rfl) rfl rfl ?_
  iterate 2 refine wp_1 rfl ?_
  refine wp_get rfl (ss_out z180 rfl) rfl rfl ?_
  iterate 8 refine wp_1 rfl ?_
  refine wp_put rfl (ss_out z180 rfl) rfl rfl rfl ?_
  refine wp_1 rfl ?_
  refine wp_lv (lv' := [(2, .int 4), (5, .int 0), (4, .int 0), (3, .ref 180), (1, .int 2), (0, .ref 114)]) rfl ?_
  iterate 5 refine wp_1 rfl ?_
  refine wp_lv (lv' := [(1, .int 3), (2, .int 4), (5, .int 0), (4, .int 0), (3, .ref 180), (0, .ref 114)]) rfl ?_
  iterate 10 refine wp_1 rfl ?_
  refine wp_get rfl (ss_in z114 rfl) rfl rfl ?_
  refine wp_1 rfl ?_
  refine wp_aald rfl (ss_out z115 rfl) rfl rfl ?_
  refine wp_get rfl (ss_out z184 rfl) rfl rfl ?_
  refine wp_1 rfl ?_
  refine wp_aald rfl (ss_out z187 rfl) rfl rfl ?_
  iterate 2 refine wp_1 rfl ?_
  refine wp_get rfl (ss_out z188 rfl) rfl rfl ?_
  iterate 8 refine wp_1 rfl ?_
  refine wp_put rfl (ss_out z188 rfl) rfl rfl rfl ?_
  refine wp_1 rfl ?_
  refine wp_lv (lv' := [(2, .int 2), (5, .int 0), (4, .int 0), (3, .ref 188), (1, .int 3), (0, .ref 114)]) rfl ?_
  iterate 5 refine wp_1 rfl ?_
  refine wp_get rfl (ss_in z114 rfl) rfl rfl ?_
  refine wp_1 rfl ?_
  refine wp_aald rfl (ss_out z115 rfl) rfl rfl ?_
  refine wp_get rfl (ss_out z184 rfl) rfl rfl ?_
  refine wp_1 rfl ?_
  refine wp_aald rfl (ss_out z187 rfl) rfl rfl ?_
  iterate 2 refine wp_1 rfl ?_
  refine wp_get rfl (ss_out z192 rfl) rfl rfl ?_
  iterate 8 refine wp_1 rfl ?_
  refine wp_put rfl (ss_out z192 rfl) rfl rfl rfl ?_
  refine wp_1 rfl ?_
  refine wp_lv (lv' := [(2, .int 3), (5, .int 0), (4, .int 0), (3, .ref 192), (1, .int 3), (0, .ref 114)]) rfl ?_
  iterate 5 refine wp_1 rfl ?_
  refine wp_get rfl (ss_in z114 rfl) rfl rfl ?_
  refine wp_1 rfl ?_
  refine wp_aald rfl (ss_out z115 rfl) rfl rfl ?_
  refine wp_get rfl (ss_out z184 rfl) rfl rfl ?_
  refine wp_1 rfl ?_
  refine wp_aald rfl (ss_out z187 rfl) rfl rfl ?_
  iterate 2 refine wp_1 rfl ?_
  refine wp_get rfl (ss_out z196 rfl) rfl rfl ?_
  iterate 8 refine wp_1 rfl ?_
  refine wp_put rfl (ss_out z196 rfl) rfl rfl rfl ?_
  refine wp_1 rfl ?_
  refine wp_lv (lv' := [(2, .int 4), (5, .int 0), (4, .int 0), (3, .ref 196), (1, .int 3), (0, .ref 114)]) rfl ?_
  iterate 5 refine wp_1 rfl ?_
  refine wp_lv (lv' := [(1, .int 4), (2, .int 4), (5, .int 0), (4, .int 0), (3, .ref 196), (0, .ref 114)]) rfl ?_
  iterate 4 refine wp_1 rfl ?_
  refine wp_r rfl ?_
  iterate 2 refine wp_1 rfl ?_
  refine wp_get rfl (ss_in z114 rfl) rfl rfl ?_
  iterate 2 refine wp_1 rfl ?_
  refine wp_put rfl (ss_in z114 rfl) rfl rfl rfl ?_
  refine wp_1 rfl ?_
  refine wp_callV rfl rfl (ss_in z114 rfl) rfl rfl rfl ?_
  iterate 4 refine wp_1 rfl ?_
  refine wp_get rfl (ss_in z114 rfl) rfl rfl ?_
  refine wp_1 rfl ?_
  refine wp_r rfl ?_
  iterate 7 refine wp_1 rfl ?_
  refine wp_get rfl (ss_in z114 rfl) rfl rfl ?_
  refine wp_1 rfl ?_
  refine wp_aald rfl (ss_out z115 rfl) rfl rfl ?_
  refine wp_callV rfl rfl (ss_in z114 rfl) rfl rfl rfl ?_
  refine wp_1 rfl ?_
  refine wp_get rfl (ss_out z136 rfl) rfl rfl ?_
  iterate 3 refine wp_1 rfl ?_
  refine wp_get rfl (ss_out z136 rfl) rfl rfl ?_
  iterate 2 refine wp_1 rfl ?_
  refine wp_r rfl ?_
  refine wp_1 rfl ?_
  refine wp_lv (lv' := [(3, .int 1), (2, .int i), (0, .ref 114), (1, .int n)]) rfl ?_
  iterate 6 refine wp_1 rfl ?_
  refine wp_get rfl (ss_in z114 rfl) rfl rfl ?_
  refine wp_1 rfl ?_
  refine wp_aald rfl (ss_out z115 rfl) rfl rfl ?_
  refine wp_callV rfl rfl (ss_in z114 rfl) rfl rfl rfl ?_
  refine wp_1 rfl ?_
  refine wp_get rfl (ss_out z152 rfl) rfl rfl ?_
  iterate 3 refine wp_1 rfl ?_
  refine wp_get rfl (ss_out z152 rfl) rfl rfl ?_
  iterate 2 refine wp_1 rfl ?_
  refine wp_r rfl ?_
  refine wp_1 rfl ?_
  refine wp_lv (lv' := [(3, .int 2), (2, .int i), (0, .ref 114), (1, .int n)]) rfl ?_
  iterate 6 refine wp_1 rfl ?_
  refine wp_get rfl (ss_in z114 rfl) rfl rfl ?_
  refine wp_1 rfl ?_
  refine wp_aald rfl (ss_out z115 rfl) rfl rfl ?_
  refine wp_callV rfl rfl (ss_in z114 rfl) rfl rfl rfl ?_
  refine wp_1 rfl ?_
  refine wp_get rfl (ss_out z168 rfl) rfl rfl ?_
  iterate 3 refine wp_1 rfl ?_
  refine wp_get rfl (ss_out z168 rfl) rfl rfl ?_
  iterate 2 refine wp_1 rfl ?_
  refine wp_r rfl ?_
  refine wp_1 rfl ?_
  refine wp_lv (lv' := [(3, .int 3), (2, .int i), (0, .ref 114), (1, .int n)]) rfl ?_
  iterate 6 refine wp_1 rfl ?_
  refine wp_get rfl (ss_in z114 rfl) rfl rfl ?_
  refine wp_1 rfl ?_
  refine wp_aald rfl (ss_out z115 rfl) rfl rfl ?_
  refine wp_callV rfl rfl (ss_in z114 rfl) rfl rfl rfl ?_
  refine wp_1 rfl ?_
  refine wp_get rfl (ss_out z184 rfl) rfl rfl ?_
  iterate 3 refine wp_1 rfl ?_
  refine wp_get rfl (ss_out z184 rfl) rfl rfl ?_
  iterate 2 refine wp_1 rfl ?_
  refine wp_r rfl ?_
  refine wp_1 rfl ?_
  refine wp_lv (lv' := [(3, .int 4), (2, .int i), (0, .ref 114), (1, .int n)]) rfl ?_
  iterate 5 refine wp_1 rfl ?_
  refine wp_callV rfl rfl (ss_in z114 rfl) rfl rfl rfl ?_
  iterate 5 refine wp_1 rfl ?_
  refine wp_callV rfl rfl (ss_in z114 rfl) rfl rfl rfl ?_
  refine wp_1 rfl ?_
  refine wp_get rfl (ss_in z114 rfl) rfl rfl ?_
  iterate 5 refine wp_1 rfl ?_
  refine wp_get rfl (ss_in z114 rfl) rfl rfl ?_
  iterate 2 refine wp_1 rfl ?_
  refine wp_r rfl ?_
  iterate 4 refine wp_1 rfl ?_
  refine wp_r rfl ?_
  refine wp_1 rfl ?_
  refine wp_lv (lv' := [(2, .int (i + 1)), (3, .int 4), (0, .ref 114), (1, .int n)]) rfl ?_
  refine wp_1 rfl ?_
  refine hK _ _ ?_
  exact (x_inv_c (ss_out z0 rfl) <| x_inv_c (ss_out z2 rfl) <| x_inv_c (ss_out z5 rfl) <| x_inv_c (ss_out z8 rfl) <| x_inv_c (ss_out z9 rfl) <| x_inv_c (ss_out z11 rfl) <| x_inv_c (ss_out z12 rfl) <| x_inv_c (ss_out z18 rfl) <| x_inv_c (ss_out z19 rfl) <| x_inv_c (ss_out z27 rfl) <| x_inv_c (ss_out z31 rfl) <| x_inv_c (ss_out z32 rfl) <| x_inv_c (ss_out z36 rfl) <| x_inv_c (ss_out z37 rfl) <| x_inv_c (ss_out z41 rfl) <| x_inv_c (ss_out z42 rfl) <| x_inv_c (ss_out z43 rfl) <| x_inv_c (ss_out z51 rfl) <| x_inv_c (ss_out z55 rfl) <| x_inv_c (ss_out z56 rfl) <| x_inv_c (ss_out z60 rfl) <| x_inv_c (ss_out z61 rfl) <| x_inv_c (ss_out z65 rfl) <| x_inv_c (ss_out z66 rfl) <| x_inv_c (ss_out z67 rfl) <| x_inv_c (ss_out z75 rfl) <| x_inv_c (ss_out z79 rfl) <| x_inv_c (ss_out z80 rfl) <| x_inv_c (ss_out z84 rfl) <| x_inv_c (ss_out z85 rfl) <| x_inv_c (ss_out z89 rfl) <| x_inv_c (ss_out z90 rfl) <| x_inv_c (ss_out z91 rfl) <| x_inv_c (ss_out z99 rfl) <| x_inv_c (ss_out z103 rfl) <| x_inv_c (ss_out z104 rfl) <| x_inv_c (ss_out z108 rfl) <| x_inv_c (ss_out z109 rfl) <| x_inv_c (ss_out z113 rfl) <| x_inv_c (ss_in z114 rfl) <| x_inv_c (ss_out z115 rfl) <| x_inv_c (ss_out z136 rfl) <| x_inv_c (ss_out z139 rfl) <| x_inv_c (ss_in z140 rfl) <| x_inv_c (ss_in z144 rfl) <| x_inv_c (ss_in z148 rfl) <| x_inv_c (ss_out z152 rfl) <| x_inv_c (ss_out z155 rfl) <| x_inv_c (ss_in z156 rfl) <| x_inv_c (ss_in z160 rfl) <| x_inv_c (ss_in z164 rfl) <| x_inv_c (ss_out z168 rfl) <| x_inv_c (ss_out z171 rfl) <| x_inv_c (ss_in z172 rfl) <| x_inv_c (ss_in z176 rfl) <| x_inv_c (ss_in z180 rfl) <| x_inv_c (ss_out z184 rfl) <| x_inv_c (ss_out z187 rfl) <| x_inv_c (ss_in z188 rfl) <| x_inv_c (ss_in z192 rfl) <| x_inv_c (ss_in z196 rfl) <| x_inv_c (ss_out z200 rfl) <| x_inv_n)
end XTickM
