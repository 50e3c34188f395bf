section XEnvB
def rf_ex (j : Nat) : Nat := if j = 1000000000 then 10 else if j = 1000000001 then 0 else if j = 1000000200 then 11 else if j = 1000000201 then 15 else if j = 1000000202 then 16 else if j = 1000001100 then 274 else if j = 1000000100 then 273 else if 1000000100 < j ∧ j < 1000000200 then j - 1000000000 else 0
theorem rf_HX : x_HX 320 rf_ex := by
  constructor
  · intro j hj
    unfold rf_ex
    repeat' split
    all_goals omega
  · intro i j hi hj hij
    unfold x_isR at hi hj
    rw [Bool.and_eq_true] at hi hj
    have i1 := Nat.le_of_ble_eq_true hi.1
    have i2 := Nat.le_of_ble_eq_true hi.2
    have j1 := Nat.le_of_ble_eq_true hj.1
    have j2 := Nat.le_of_ble_eq_true hj.2
    have key : ∀ k, 1000000100 ≤ k → k + 1 ≤ 1000000200 → rf_ex k = if k = 1000000100 then 273 else k - 1000000000 := by
      intro k h1 h2
      unfold rf_ex
      repeat' split
      all_goals omega
    rw [key i i1 i2, key j j1 j2]
    repeat' split
    all_goals omega
theorem rf_size : rf_s.heap.size = 320 := by decide +kernel
theorem rf_st0 : (Term.static "java/util/ArrayList" "DEFAULTCAPACITY_EMPTY_ELEMENTDATA" "[Ljava/lang/Object;").eval #[Value.ref 0] rf_s none [] rf_s = some (.ref 10) := by decide +kernel
theorem rf_st1 : (Term.static "java/lang/String" "COMPACT_STRINGS" "Z").eval #[Value.ref 0] rf_s none [] rf_s = some (.int 1) := by decide +kernel
theorem rf_st2 : (Term.static "RelayHall" "GREETING_BYTES" "[I").eval #[Value.ref 0] rf_s none [] rf_s = some (.ref 11) := by decide +kernel
theorem rf_st3 : (Term.static "RelayHallModel" "GREETS" "[B").eval #[Value.ref 0] rf_s none [] rf_s = some (.ref 15) := by decide +kernel
theorem rf_st4 : (Term.static "RelayHallModel" "EMPTY" "[B").eval #[Value.ref 0] rf_s none [] rf_s = some (.ref 16) := by decide +kernel
theorem rf_st5 : (Term.static "jdk/internal/util/Preconditions" "SIOOBE_FORMATTER" "Ljava/util/function/BiFunction;").eval #[Value.ref 0] rf_s none [] rf_s = some (.null) := by decide +kernel
theorem rf_tx0 : (Term.string "RelayHall" 25).eval #[Value.ref 0] rf_s none [] rf_s = some (.ref 273) := by decide +kernel
theorem rf_tx1 : (Term.string "RelayHall$Channel" 37).eval #[Value.ref 0] rf_s none [] rf_s = some (.ref 273) := by decide +kernel
theorem rf_tx2 : (Term.string "RelayHall$Reader" 30).eval #[Value.ref 0] rf_s none [] rf_s = some (.ref 273) := by decide +kernel
theorem rf_tx3 : (Term.string "java/lang/String" 7).eval #[Value.ref 0] rf_s none [] rf_s = some (.ref 273) := by decide +kernel
theorem rf_tx4 : (Term.string "java/lang/StringLatin1" 151).eval #[Value.ref 0] rf_s none [] rf_s = some (.ref 273) := by decide +kernel
theorem rf_tx5 : (Term.string "java/lang/StringUTF16" 295).eval #[Value.ref 0] rf_s none [] rf_s = some (.ref 273) := by decide +kernel
theorem rf_fv : (Term.field (Term.string "RelayHall" 25) "java/lang/String" "value" "[B").eval #[Value.ref 0] rf_s none [] rf_s = some (.ref 274) := by decide +kernel
theorem rf_fc : (Term.field (Term.string "RelayHall" 25) "java/lang/String" "coder" "B").eval #[Value.ref 0] rf_s none [] rf_s = some (.int 0) := by decide +kernel
set_option maxRecDepth 100000 in
theorem rf_env : ∃ (D : va_G) (tc : Nat → ClassId), x_Env (xu D tc 320 rf_ex 52 x_scr) rf_s := by
  have hts : ∀ w ∈ lw_tbl, w.before #[Value.ref 0] rf_s = true := rf_hts
  have hgv : (Jvm.Cond.and given_1 narrow_1).before #[Value.ref 0] rf_s = true := rf_narrow
  have hs := flat_of_before _ hgv
  obtain ⟨D, tc, hK⟩ := x_e_K hts
  have hA : ∀ a : Nat, a < rf_s.heap.size → ¬ (fun q => 320 ≤ q) a := fun a h => by rw [rf_size] at h; exact Nat.not_le.mpr h
  refine ⟨D, tc, ?_, ?_, x_e_hns hts, x_e_hos hts, hK, Nat.le_of_eq rf_size.symm, x_e_hxs hgv, ?_, ?_, ?_⟩
  · exact (List.forall_mem_cons.mpr ⟨va_Zof (A := fun q => 320 ≤ q) (hts _ tw_361) (hts _ tw_246) rf_st0 hA,
  (List.forall_mem_cons.mpr ⟨va_Zof (A := fun q => 320 ≤ q) (hts _ tw_420) (hts _ tw_251) rf_st1 hA,
  (List.forall_mem_cons.mpr ⟨va_Zof (A := fun q => 320 ≤ q) (hts _ tw_689) (hts _ tw_241) rf_st2 hA,
  (List.forall_mem_cons.mpr ⟨va_Zof (A := fun q => 320 ≤ q) (hts _ tw_2666) (hts _ tw_255) rf_st3 hA,
  (List.forall_mem_cons.mpr ⟨va_Zof (A := fun q => 320 ≤ q) (hts _ tw_3041) (hts _ tw_255) rf_st4 hA,
  (List.forall_mem_cons.mpr ⟨va_Zof (A := fun q => 320 ≤ q) (hts _ tw_944) (hts _ tw_262) rf_st5 hA,
  (fun _ h => absurd h List.not_mem_nil)⟩)⟩)⟩)⟩)⟩)⟩)
  · exact (List.forall_mem_cons.mpr ⟨vk_R.of (hts _ tw_304) rf_tx0,
  (List.forall_mem_cons.mpr ⟨vk_R.of (hts _ tw_509) rf_tx1,
  (List.forall_mem_cons.mpr ⟨vk_R.of (hts _ tw_897) rf_tx2,
  (List.forall_mem_cons.mpr ⟨vk_R.of (hts _ tw_907) rf_tx3,
  (List.forall_mem_cons.mpr ⟨vk_R.of (hts _ tw_1139) rf_tx4,
  (List.forall_mem_cons.mpr ⟨vk_R.of (hts _ tw_1351) rf_tx5,
  (fun _ h => absurd h List.not_mem_nil)⟩)⟩)⟩)⟩)⟩)⟩)
  · refine List.forall_mem_cons.mpr ⟨x_Tc (cell := { cls := 61, slots := rf_scr, vm := .none }) rfl rfl rfl rfl (by decide +kernel) (by decide +kernel) (show ¬ (320 ≤ 0) by decide), ?_⟩
    refine List.forall_mem_cons.mpr ⟨x_Tc (t := 15) rfl rfl rfl rfl (by decide +kernel) (by decide +kernel) (show ¬ (320 ≤ 15) by decide), ?_⟩
    refine List.forall_mem_cons.mpr ⟨x_Tc (t := 16) rfl rfl rfl rfl (by decide +kernel) (by decide +kernel) (show ¬ (320 ≤ 16) by decide), ?_⟩
    refine List.forall_mem_cons.mpr ⟨x_Tc (t := 274) rfl rfl rfl rfl (by decide +kernel) (by decide +kernel) (show ¬ (320 ≤ 274) by decide), ?_⟩
    refine List.forall_mem_cons.mpr ⟨x_Tc (t := 11) rfl rfl rfl rfl (by decide +kernel) (by decide +kernel) (show ¬ (320 ≤ 11) by decide), ?_⟩
    exact List.forall_mem_cons.mpr ⟨x_Tc (t := 10) rfl rfl rfl rfl (by decide +kernel) (by decide +kernel) (show ¬ (320 ≤ 10) by decide), fun _ h => absurd h List.not_mem_nil⟩
  · exact List.forall_mem_cons.mpr ⟨x_OFof (C := "java/lang/String") (Or.inr (hts _ tw_954)) rf_tx0 rf_fv hA, List.forall_mem_cons.mpr ⟨x_OFof (C := "java/lang/String") (Or.inr (hts _ tw_956)) rf_tx0 rf_fc hA, fun _ h => absurd h List.not_mem_nil⟩⟩
  · exact List.forall_mem_cons.mpr ⟨va_Oof (hs (Cond.exactly (Term.string "RelayHall" 25) "java/lang/String") (by decide +kernel)) rf_tx0 hA, fun _ h => absurd h List.not_mem_nil⟩
set_option maxRecDepth 100000 in
theorem rf_Bad {D : va_G} {tc : Nat → ClassId} : x_Bad (xu D tc 320 rf_ex 52 x_scr) rf_s := by
  refine ⟨{ cls := 87, slots := #[], vm := .none }, rf_K, rfl, fun q h => (by cases h), rfl, (by decide : 16 < 320), fun comp hc => ?_⟩
  have h1 : rf_s.vm.findClass "[B" = some 63 := by decide +kernel
  cases h1.symm.trans hc
  decide +kernel
end XEnvB
