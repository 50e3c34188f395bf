section XTwo2
theorem tw_type_a {w : Int64} {n : Int32} (b0 : n < 1) : x_two 12 15 313 [.long w, .int n] x_hL 10 100 := by
  iterate 3 refine wp_1 rfl ?_
  refine wp_pc (if_pos b0) ?_
  refine wp_1 rfl ?_
  refine wp_r rfl ⟨_, _, rfl, rfl, ?_⟩
  iterate 6 refine wp_1 rfl ?_
  refine wp_pc (if_pos b0) ?_
  refine wp_1 rfl ?_
  exact wp_r rfl ⟨rfl, Nat.le_of_ble_eq_true rfl, Nat.le_of_ble_eq_true rfl⟩
theorem tw_type_b {w : Int64} {n : Int32} (b0 : ¬ n < 1) (b1 : 8 < n) : x_two 12 15 313 [.long w, .int n] x_hL 10 100 := by
  iterate 3 refine wp_1 rfl ?_
  refine wp_pc (if_neg b0) ?_
  iterate 3 refine wp_1 rfl ?_
  refine wp_pc (if_pos b1) ?_
  refine wp_1 rfl ?_
  refine wp_r rfl ⟨_, _, rfl, rfl, ?_⟩
  iterate 6 refine wp_1 rfl ?_
  refine wp_pc (if_neg b0) ?_
  iterate 3 refine wp_1 rfl ?_
  refine wp_pc (if_pos b1) ?_
  refine wp_1 rfl ?_
  exact wp_r rfl ⟨rfl, Nat.le_of_ble_eq_true rfl, Nat.le_of_ble_eq_true rfl⟩
theorem tw_connection_b {c q : Int32} (hb : c < 0 ∨ ¬ c < 0 ∧ 4 ≤ c) : x_two 12 277 485 [.int c, .int q] x_hL 10 100 := by
  refine wp_1 rfl ?_
  refine wp_c rfl rfl (wp_e (iCb hb) ?_)
  iterate 2 refine wp_1 rfl ?_
  refine wp_r rfl ⟨_, _, rfl, rfl, ?_⟩
  iterate 4 refine wp_1 rfl ?_
  refine wp_c rfl rfl (wp_e (iMb hb) ?_)
  iterate 2 refine wp_1 rfl ?_
  exact wp_r rfl ⟨rfl, Nat.le_of_ble_eq_true rfl, Nat.le_of_ble_eq_true rfl⟩
theorem tw_connection_0 {q : Int32} (b0 : x_case [(0, 48), (1, 53), (2, 58), (3, 63)] 68 (q) = 68) (b1 : ¬ q = 2) (b2 : ¬ q = 0) (b3 : ¬ q = 1) (b4 : ¬ q = 3) : x_two 12 277 485 [.int 0, .int q] x_hL 10 100 := by
  refine wp_1 rfl ?_
  refine wp_c rfl rfl ?_
  iterate 7 refine wp_1 rfl ?_
  refine wp_r rfl ?_
  iterate 8 refine wp_1 rfl ?_
  refine wp_pc b0 ?_
  refine wp_1 rfl ?_
  refine wp_r rfl ⟨_, _, rfl, rfl, ?_⟩
  iterate 4 refine wp_1 rfl ?_
  refine wp_c rfl rfl ?_
  iterate 7 refine wp_1 rfl ?_
  refine wp_r rfl ?_
  iterate 9 refine wp_1 rfl ?_
  refine wp_pc (if_pos b1) ?_
  iterate 2 refine wp_1 rfl ?_
  refine wp_pc (if_pos b2) ?_
  iterate 3 refine wp_1 rfl ?_
  refine wp_pc (if_pos b3) ?_
  iterate 3 refine wp_1 rfl ?_
  refine wp_pc (if_pos b4) ?_
  refine wp_1 rfl ?_
  exact wp_r rfl ⟨rfl, Nat.le_of_ble_eq_true rfl, Nat.le_of_ble_eq_true rfl⟩
theorem tw_connection_1 {q : Int32} (b0 : x_case [(0, 48), (1, 53), (2, 58), (3, 63)] 68 (q) = 68) (b1 : ¬ q = 2) (b2 : ¬ q = 0) (b3 : ¬ q = 1) (b4 : ¬ q = 3) : x_two 12 277 485 [.int 1, .int q] x_hL 10 100 := by
  refine wp_1 rfl ?_
  refine wp_c rfl rfl ?_
  iterate 7 refine wp_1 rfl ?_
  refine wp_r rfl ?_
  iterate 8 refine wp_1 rfl ?_
  refine wp_pc b0 ?_
  refine wp_1 rfl ?_
  refine wp_r rfl ⟨_, _, rfl, rfl, ?_⟩
  iterate 4 refine wp_1 rfl ?_
  refine wp_c rfl rfl ?_
  iterate 7 refine wp_1 rfl ?_
  refine wp_r rfl ?_
  iterate 9 refine wp_1 rfl ?_
  refine wp_pc (if_pos b1) ?_
  iterate 2 refine wp_1 rfl ?_
  refine wp_pc (if_pos b2) ?_
  iterate 3 refine wp_1 rfl ?_
  refine wp_pc (if_pos b3) ?_
  iterate 3 refine wp_1 rfl ?_
  refine wp_pc (if_pos b4) ?_
  refine wp_1 rfl ?_
  exact wp_r rfl ⟨rfl, Nat.le_of_ble_eq_true rfl, Nat.le_of_ble_eq_true rfl⟩
theorem tw_connection_2 {q : Int32} (b0 : x_case [(0, 48), (1, 53), (2, 58), (3, 63)] 68 (q) = 68) (b1 : ¬ q = 2) (b2 : ¬ q = 0) (b3 : ¬ q = 1) (b4 : ¬ q = 3) : x_two 12 277 485 [.int 2, .int q] x_hL 10 100 := by
  refine wp_1 rfl ?_
  refine wp_c rfl rfl ?_
  iterate 7 refine wp_1 rfl ?_
  refine wp_r rfl ?_
  iterate 8 refine wp_1 rfl ?_
  refine wp_pc b0 ?_
  refine wp_1 rfl ?_
  refine wp_r rfl ⟨_, _, rfl, rfl, ?_⟩
  iterate 4 refine wp_1 rfl ?_
  refine wp_c rfl rfl ?_
  iterate 7 refine wp_1 rfl ?_
  refine wp_r rfl ?_
  iterate 9 refine wp_1 rfl ?_
  refine wp_pc (if_pos b1) ?_
  iterate 2 refine wp_1 rfl ?_
  refine wp_pc (if_pos b2) ?_
  iterate 3 refine wp_1 rfl ?_
  refine wp_pc (if_pos b3) ?_
  iterate 3 refine wp_1 rfl ?_
  refine wp_pc (if_pos b4) ?_
  refine wp_1 rfl ?_
  exact wp_r rfl ⟨rfl, Nat.le_of_ble_eq_true rfl, Nat.le_of_ble_eq_true rfl⟩
theorem tw_connection_3 {q : Int32} (b0 : x_case [(0, 48), (1, 53), (2, 58), (3, 63)] 68 (q) = 68) (b1 : ¬ q = 2) (b2 : ¬ q = 0) (b3 : ¬ q = 1) (b4 : ¬ q = 3) : x_two 12 277 485 [.int 3, .int q] x_hL 10 100 := by
  refine wp_1 rfl ?_
  refine wp_c rfl rfl ?_
  iterate 7 refine wp_1 rfl ?_
  refine wp_r rfl ?_
  iterate 8 refine wp_1 rfl ?_
  refine wp_pc b0 ?_
  refine wp_1 rfl ?_
  refine wp_r rfl ⟨_, _, rfl, rfl, ?_⟩
  iterate 4 refine wp_1 rfl ?_
  refine wp_c rfl rfl ?_
  iterate 7 refine wp_1 rfl ?_
  refine wp_r rfl ?_
  iterate 9 refine wp_1 rfl ?_
  refine wp_pc (if_pos b1) ?_
  iterate 2 refine wp_1 rfl ?_
  refine wp_pc (if_pos b2) ?_
  iterate 3 refine wp_1 rfl ?_
  refine wp_pc (if_pos b3) ?_
  iterate 3 refine wp_1 rfl ?_
  refine wp_pc (if_pos b4) ?_
  refine wp_1 rfl ?_
  exact wp_r rfl ⟨rfl, Nat.le_of_ble_eq_true rfl, Nat.le_of_ble_eq_true rfl⟩
theorem tw_channel_b {c k q : Int32} (hb : c < 0 ∨ ¬ c < 0 ∧ 4 ≤ c) : x_two 12 279 486 [.int c, .int k, .int q] x_hL 10 100 := by
  refine wp_1 rfl ?_
  refine wp_c rfl rfl (wp_e (iCb hb) ?_)
  iterate 2 refine wp_1 rfl ?_
  refine wp_r rfl ⟨_, _, rfl, rfl, ?_⟩
  iterate 4 refine wp_1 rfl ?_
  refine wp_c rfl rfl (wp_e (iMb hb) ?_)
  iterate 2 refine wp_1 rfl ?_
  exact wp_r rfl ⟨rfl, Nat.le_of_ble_eq_true rfl, Nat.le_of_ble_eq_true rfl⟩
theorem tw_channel_x {c k q : Int32} (hg : ¬ c < 0 ∧ ¬ 4 ≤ c) (b0 : k < 1) : x_two 12 279 486 [.int c, .int k, .int q] x_hL 10 100 := by
  refine wp_1 rfl ?_
  refine wp_c rfl rfl (wp_e (iCg hg) ?_)
  iterate 4 refine wp_1 rfl ?_
  refine wp_pc (if_pos b0) ?_
  refine wp_1 rfl ?_
  refine wp_r rfl ⟨_, _, rfl, rfl, ?_⟩
  iterate 4 refine wp_1 rfl ?_
  refine wp_c rfl rfl (wp_e (iMg hg) ?_)
  iterate 4 refine wp_1 rfl ?_
  refine wp_pc (if_pos b0) ?_
  refine wp_1 rfl ?_
  exact wp_r rfl ⟨rfl, Nat.le_of_ble_eq_true rfl, Nat.le_of_ble_eq_true rfl⟩
theorem tw_channel_y {c k q : Int32} (hg : ¬ c < 0 ∧ ¬ 4 ≤ c) (b0 : ¬ k < 1) (b1 : 3 < k) : x_two 12 279 486 [.int c, .int k, .int q] x_hL 10 100 := by
  refine wp_1 rfl ?_
  refine wp_c rfl rfl (wp_e (iCg hg) ?_)
  iterate 4 refine wp_1 rfl ?_
  refine wp_pc (if_neg b0) ?_
  iterate 3 refine wp_1 rfl ?_
  refine wp_pc (if_pos b1) ?_
  refine wp_1 rfl ?_
  refine wp_r rfl ⟨_, _, rfl, rfl, ?_⟩
  iterate 4 refine wp_1 rfl ?_
  refine wp_c rfl rfl (wp_e (iMg hg) ?_)
  iterate 4 refine wp_1 rfl ?_
  refine wp_pc (if_neg b0) ?_
  iterate 3 refine wp_1 rfl ?_
  refine wp_pc (if_pos b1) ?_
  refine wp_1 rfl ?_
  exact wp_r rfl ⟨rfl, Nat.le_of_ble_eq_true rfl, Nat.le_of_ble_eq_true rfl⟩
theorem tw_channel_z {c k q : Int32} (hg : ¬ c < 0 ∧ ¬ 4 ≤ c) (b0 : ¬ k < 1) (b1 : ¬ 3 < k) (b2 : q < 0) : x_two 12 279 486 [.int c, .int k, .int q] x_hL 10 100 := by
  refine wp_1 rfl ?_
  refine wp_c rfl rfl (wp_e (iCg hg) ?_)
  iterate 4 refine wp_1 rfl ?_
  refine wp_pc (if_neg b0) ?_
  iterate 3 refine wp_1 rfl ?_
  refine wp_pc (if_neg b1) ?_
  iterate 2 refine wp_1 rfl ?_
  refine wp_pc (if_pos b2) ?_
  refine wp_1 rfl ?_
  refine wp_r rfl ⟨_, _, rfl, rfl, ?_⟩
  iterate 4 refine wp_1 rfl ?_
  refine wp_c rfl rfl (wp_e (iMg hg) ?_)
  iterate 4 refine wp_1 rfl ?_
  refine wp_pc (if_neg b0) ?_
  iterate 3 refine wp_1 rfl ?_
  refine wp_pc (if_neg b1) ?_
  iterate 2 refine wp_1 rfl ?_
  refine wp_pc (if_pos b2) ?_
  refine wp_1 rfl ?_
  exact wp_r rfl ⟨rfl, Nat.le_of_ble_eq_true rfl, Nat.le_of_ble_eq_true rfl⟩
theorem tw_channel_w {c k q : Int32} (hg : ¬ c < 0 ∧ ¬ 4 ≤ c) (b0 : ¬ k < 1) (b1 : ¬ 3 < k) (b2 : ¬ q < 0) (b3 : ¬ q ≤ 6) : x_two 12 279 486 [.int c, .int k, .int q] x_hL 10 100 := by
  refine wp_1 rfl ?_
  refine wp_c rfl rfl (wp_e (iCg hg) ?_)
  iterate 4 refine wp_1 rfl ?_
  refine wp_pc (if_neg b0) ?_
  iterate 3 refine wp_1 rfl ?_
  refine wp_pc (if_neg b1) ?_
  iterate 2 refine wp_1 rfl ?_
  refine wp_pc (if_neg b2) ?_
  iterate 3 refine wp_1 rfl ?_
  refine wp_pc (if_neg b3) ?_
  refine wp_1 rfl ?_
  refine wp_r rfl ⟨_, _, rfl, rfl, ?_⟩
  iterate 4 refine wp_1 rfl ?_
  refine wp_c rfl rfl (wp_e (iMg hg) ?_)
  iterate 4 refine wp_1 rfl ?_
  refine wp_pc (if_neg b0) ?_
  iterate 3 refine wp_1 rfl ?_
  refine wp_pc (if_neg b1) ?_
  iterate 2 refine wp_1 rfl ?_
  refine wp_pc (if_neg b2) ?_
  iterate 3 refine wp_1 rfl ?_
  refine wp_pc (if_neg b3) ?_
  refine wp_1 rfl ?_
  exact wp_r rfl ⟨rfl, Nat.le_of_ble_eq_true rfl, Nat.le_of_ble_eq_true rfl⟩
theorem tw_queue_a {k q : Int32} (b0 : k < 0) : x_two 12 281 487 [.int k, .int q] x_hL 10 100 := by
  iterate 2 refine wp_1 rfl ?_
  refine wp_pc (if_pos b0) ?_
  refine wp_1 rfl ?_
  refine wp_r rfl ⟨_, _, rfl, rfl, ?_⟩
  iterate 5 refine wp_1 rfl ?_
  refine wp_pc (if_pos b0) ?_
  refine wp_1 rfl ?_
  exact wp_r rfl ⟨rfl, Nat.le_of_ble_eq_true rfl, Nat.le_of_ble_eq_true rfl⟩
theorem tw_queue_b {k q : Int32} (b0 : ¬ k < 0) : x_two 12 281 487 [.int k, .int q] x_hL 10 100 := by
  iterate 2 refine wp_1 rfl ?_
  refine wp_pc (if_neg b0) ?_
  iterate 3 refine wp_1 rfl ?_
  refine wp_c rfl rfl ?_
  iterate 2 refine wp_1 rfl ?_
  refine wp_r rfl ?_
  refine wp_1 rfl ?_
  refine wp_pc (if_neg b0) ?_
  refine wp_1 rfl ?_
  refine wp_r rfl ⟨_, _, rfl, rfl, ?_⟩
  iterate 5 refine wp_1 rfl ?_
  refine wp_pc (if_neg b0) ?_
  iterate 4 refine wp_1 rfl ?_
  refine wp_pc (if_neg b0) ?_
  refine wp_1 rfl ?_
  exact wp_r rfl ⟨rfl, Nat.le_of_ble_eq_true rfl, Nat.le_of_ble_eq_true rfl⟩
theorem tw_exchange_a {k q : Int32} (b0 : k < 0) : x_two 12 284 489 [.int k, .int q] x_hL 10 100 := by
  iterate 2 refine wp_1 rfl ?_
  refine wp_pc (if_pos b0) ?_
  refine wp_1 rfl ?_
  refine wp_r rfl ⟨_, _, rfl, rfl, ?_⟩
  iterate 5 refine wp_1 rfl ?_
  refine wp_pc (if_pos b0) ?_
  refine wp_1 rfl ?_
  exact wp_r rfl ⟨rfl, Nat.le_of_ble_eq_true rfl, Nat.le_of_ble_eq_true rfl⟩
theorem tw_exchange_b {k q : Int32} (b0 : ¬ k < 0) : x_two 12 284 489 [.int k, .int q] x_hL 10 100 := by
  iterate 2 refine wp_1 rfl ?_
  refine wp_pc (if_neg b0) ?_
  iterate 3 refine wp_1 rfl ?_
  refine wp_c rfl rfl ?_
  iterate 2 refine wp_1 rfl ?_
  refine wp_r rfl ?_
  refine wp_1 rfl ?_
  refine wp_pc (if_neg b0) ?_
  refine wp_1 rfl ?_
  refine wp_r rfl ⟨_, _, rfl, rfl, ?_⟩
  iterate 5 refine wp_1 rfl ?_
  refine wp_pc (if_neg b0) ?_
  iterate 4 refine wp_1 rfl ?_
  refine wp_pc (if_neg b0) ?_
  refine wp_1 rfl ?_
  exact wp_r rfl ⟨rfl, Nat.le_of_ble_eq_true rfl, Nat.le_of_ble_eq_true rfl⟩
theorem tw_total_b {q : Int32} (b0 : x_case [(0, 48), (1, 53), (2, 58), (3, 66), (4, 74), (5, 82), (6, 90), (7, 101)] 106 (q) = 106) (b1 : x_case [(0, 52), (1, 57), (2, 62), (3, 67), (4, 72), (5, 77), (6, 82), (7, 87)] 92 (q) = 92) : x_two 12 285 490 [.int q] x_hL 10 100 := by
  iterate 2 refine wp_1 rfl ?_
  refine wp_pc b0 ?_
  refine wp_1 rfl ?_
  refine wp_r rfl ⟨_, _, rfl, rfl, ?_⟩
  iterate 5 refine wp_1 rfl ?_
  refine wp_pc b1 ?_
  refine wp_1 rfl ?_
  exact wp_r rfl ⟨rfl, Nat.le_of_ble_eq_true rfl, Nat.le_of_ble_eq_true rfl⟩
end XTwo2
