section XTwo
/-- the cells at the law's loop -/
def x_hL : xH := x_h2 ++ [.inl (4, 1, [])]
theorem iCx {d : Nat} {c : Int32} {h : xH} (b0 : c < 0) : x_Ev d 17 0 (lv_args 0 [.int c]) [] h 0 0 (some (.int 0), h, 0, 0) := by
  iterate 2 refine ev_1 rfl ?_
  refine ev_pc (if_pos b0) ?_
  refine ev_1 rfl ?_
  exact ev_r rfl
theorem iCy {d : Nat} {c : Int32} {h : xH} (b0 : ¬ c < 0) (b1 : 4 ≤ c) : x_Ev d 17 0 (lv_args 0 [.int c]) [] h 0 0 (some (.int 0), h, 0, 0) := by
  iterate 2 refine ev_1 rfl ?_
  refine ev_pc (if_neg b0) ?_
  iterate 3 refine ev_1 rfl ?_
  refine ev_pc (if_pos b1) ?_
  refine ev_1 rfl ?_
  exact ev_r rfl
theorem iCg {d : Nat} {c : Int32} {h : xH} (hg : ¬ c < 0 ∧ ¬ 4 ≤ c) : x_Ev d 17 0 (lv_args 0 [.int c]) [] h 0 0 (some (.int 1), h, 0, 0) := by
  obtain ⟨b0, b1⟩ := hg
  iterate 2 refine ev_1 rfl ?_
  refine ev_pc (if_neg b0) ?_
  iterate 3 refine ev_1 rfl ?_
  refine ev_pc (if_neg b1) ?_
  iterate 2 refine ev_1 rfl ?_
  exact ev_r rfl
theorem iCb {d : Nat} {c : Int32} {h : xH} (hb : c < 0 ∨ ¬ c < 0 ∧ 4 ≤ c) : x_Ev d 17 0 (lv_args 0 [.int c]) [] h 0 0 (some (.int 0), h, 0, 0) := hb.elim (fun q => iCx q) (fun q => iCy q.1 q.2)
theorem iMx {d : Nat} {c : Int32} {h : xH} (b0 : c < 0) : x_Ev d 315 0 (lv_args 0 [.int c]) [] h 0 0 (some (.int 0), h, 0, 0) := by
  iterate 2 refine ev_1 rfl ?_
  refine ev_pc (if_pos b0) ?_
  refine ev_1 rfl ?_
  exact ev_r rfl
theorem iMy {d : Nat} {c : Int32} {h : xH} (b0 : ¬ c < 0) (b1 : 4 ≤ c) : x_Ev d 315 0 (lv_args 0 [.int c]) [] h 0 0 (some (.int 0), h, 0, 0) := by
  iterate 2 refine ev_1 rfl ?_
  refine ev_pc (if_neg b0) ?_
  iterate 3 refine ev_1 rfl ?_
  refine ev_pc (if_pos b1) ?_
  refine ev_1 rfl ?_
  exact ev_r rfl
theorem iMg {d : Nat} {c : Int32} {h : xH} (hg : ¬ c < 0 ∧ ¬ 4 ≤ c) : x_Ev d 315 0 (lv_args 0 [.int c]) [] h 0 0 (some (.int 1), h, 0, 0) := by
  obtain ⟨b0, b1⟩ := hg
  iterate 2 refine ev_1 rfl ?_
  refine ev_pc (if_neg b0) ?_
  iterate 3 refine ev_1 rfl ?_
  refine ev_pc (if_neg b1) ?_
  iterate 2 refine ev_1 rfl ?_
  exact ev_r rfl
theorem iMb {d : Nat} {c : Int32} {h : xH} (hb : c < 0 ∨ ¬ c < 0 ∧ 4 ≤ c) : x_Ev d 315 0 (lv_args 0 [.int c]) [] h 0 0 (some (.int 0), h, 0, 0) := hb.elim (fun q => iMx q) (fun q => iMy q.1 q.2)
theorem tw_connect_b {c : Int32} (hb : c < 0 ∨ ¬ c < 0 ∧ 4 ≤ c) : x_two 12 16 314 [.int c] x_hL 10 100 := by
  refine wp_1 rfl ?_
  refine wp_c rfl rfl (wp_e (iCb hb) ?_)
  iterate 2 refine wp_1 rfl ?_
  refine wp_r rfl ⟨_, _, rfl, rfl, ?_⟩
  iterate 4 refine wp_1 rfl ?_
  refine wp_c rfl rfl (wp_e (iMb hb) ?_)
  iterate 2 refine wp_1 rfl ?_
  exact wp_r rfl ⟨rfl, Nat.le_of_ble_eq_true rfl, Nat.le_of_ble_eq_true rfl⟩
theorem tw_send_b {c : Int32} (hb : c < 0 ∨ ¬ c < 0 ∧ 4 ≤ c) : x_two 12 19 316 [.int c] x_hL 10 100 := by
  iterate 7 refine wp_1 rfl ?_
  refine wp_c rfl rfl (wp_e (iCb hb) ?_)
  iterate 2 refine wp_1 rfl ?_
  refine wp_r rfl ⟨_, _, rfl, rfl, ?_⟩
  iterate 10 refine wp_1 rfl ?_
  refine wp_c rfl rfl (wp_e (iMb hb) ?_)
  iterate 2 refine wp_1 rfl ?_
  exact wp_r rfl ⟨rfl, Nat.le_of_ble_eq_true rfl, Nat.le_of_ble_eq_true rfl⟩
theorem tw_cut_b {c : Int32} (hb : c < 0 ∨ ¬ c < 0 ∧ 4 ≤ c) : x_two 12 275 468 [.int c] x_hL 10 100 := by
  refine wp_1 rfl ?_
  refine wp_c rfl rfl (wp_e (iCb hb) ?_)
  iterate 2 refine wp_1 rfl ?_
  refine wp_r rfl ⟨_, _, rfl, rfl, ?_⟩
  iterate 4 refine wp_1 rfl ?_
  refine wp_c rfl rfl (wp_e (iMb hb) ?_)
  iterate 2 refine wp_1 rfl ?_
  exact wp_r rfl ⟨rfl, Nat.le_of_ble_eq_true rfl, Nat.le_of_ble_eq_true rfl⟩
theorem tw_waiting_b {c : Int32} (hb : c < 0 ∨ ¬ c < 0 ∧ 4 ≤ c) : x_two 12 276 469 [.int c] x_hL 10 100 := by
  refine wp_1 rfl ?_
  refine wp_c rfl rfl (wp_e (iCb hb) ?_)
  iterate 2 refine wp_1 rfl ?_
  refine wp_r rfl ⟨_, _, rfl, rfl, ?_⟩
  iterate 4 refine wp_1 rfl ?_
  refine wp_c rfl rfl (wp_e (iMb hb) ?_)
  iterate 2 refine wp_1 rfl ?_
  exact wp_r rfl ⟨rfl, Nat.le_of_ble_eq_true rfl, Nat.le_of_ble_eq_true rfl⟩
end XTwo
