section XEnd
set_option maxRecDepth 100000 in
theorem rf_app {D : va_G} {tc : Nat → ClassId} : (headSpec (x_ws (xu D tc 320 rf_ex 52 x_scr) xm_493) (x_rm 32 222 51714)).appliesLoose xm_493.1 start1.e0.platform rf_s = true :=
  (Spec.appliesLoose_iff (below := rf_below) (m := ⟨0, 0⟩) (args := start1.args0) rfl).mpr ⟨rfl, rfl, rfl, by decide +kernel, by decide +kernel, by decide +kernel, launch0.hasRoom_least _ (x_rm 32 222 51714) (by decide +kernel) (by decide +kernel) (by decide +kernel) (by decide +kernel) (by decide +kernel) (by decide +kernel),
    atoms_intro (List.forall_mem_cons.mpr ⟨rf_word_code, fun w hw => rf_hts w (List.mem_filter.mp hw).1⟩)⟩
set_option maxRecDepth 100000 in
theorem rf_applies : (headSpec (Cond.code x code maxLocals ret :: tables_1) room_1).applies x start1.e0.platform rf_s = true :=
  (Spec.applies_iff (below := rf_below) (m := ⟨0, 0⟩) (args := start1.args0) rfl).mpr ⟨rfl, rfl, rfl, by decide +kernel, by decide +kernel, by decide +kernel, launch0.hasRoom_least _ room_1 (by decide +kernel) (by decide +kernel) (by decide +kernel) (by decide +kernel) (by decide +kernel) (by decide +kernel),
    atoms_intro (List.forall_mem_cons.mpr ⟨rf_word_code, rf_words⟩)⟩
set_option maxRecDepth 100000 in
/-- in this state of the claim the law never returns -/
theorem rf_dies : ∃ s₂, Steps start1.p0.tables start1.e0 rf_below rf_s s₂ ∧ Refuse.Cert start1.p0.tables rf_below s₂ := by
  obtain ⟨D, tc, hE⟩ := rf_env
  exact x_lawDy (D := D) (tc := tc) rf_HX start1.p0 start1.e0 (launch0.admits_env _ _ _) fairChoices_fair.cas fairChoices_fair.clock rf_s ⟨0, 0⟩ start1.args0 rf_below rfl rf_app ⟨rfl, hE, rf_size, Nat.zero_le _, fun i q hq => by simp at hq⟩ rf_Bad
set_option maxRecDepth 100000 in
/-- THE CLAIM IS FALSE AS WRITTEN: there is a state that meets every premise of it from which the law doesn't return -/
theorem rf_refuted : ¬ Claimed_1_1 := by
  intro hC
  obtain ⟨n, o, hw, hrun, hend, hpost⟩ := hC launch0 rfl lists_1 trivial start1.p0 start1.e0 (launch0.admits_env _ _ _) fairChoices_fair.cas fairChoices_fair.clock rf_s ⟨0, 0⟩ start1.args0 rf_below rfl rf_args rf_heap rf_applies ⟨trivial, rf_rest, rf_narrow⟩
  obtain ⟨s₂, ⟨n₀, hn, wn⟩, hcert⟩ := rf_dies
  have hal : Refuse.Alive rf_below (stepsAlone start1.p0.tables start1.e0 n rf_s) := by
    rcases Nat.lt_or_ge n n₀ with hlt | hge
    · exact .inl (wn n hlt)
    · obtain ⟨j, rfl⟩ := Nat.exists_eq_add_of_le hge
      rw [stepsAlone_add, hn]
      refine hcert.doomed start1.e0 j fun k hk => ?_
      have := hw (n₀ + k) (by omega)
      rwa [stepsAlone_add, hn] at this
  have hret : ∃ v, o = .returned v := by
    have h := hpost.1
    cases o with
    | returned v => exact ⟨v, rfl⟩
    | threw a => simp [postC, limb_1_1, Cond.after, Cond.holds, Cond.value] at h
  obtain ⟨v, rfl⟩ := hret
  exact hal.not_returned (fun g r h => by cases h) v hend
theorem rf_not_owed : ¬ (Claimed_1_1 ∧ Claimed_1_2) := fun h => rf_refuted h.1
end XEnd
