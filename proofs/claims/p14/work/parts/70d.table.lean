section XTf
def rf_fs : List String := tr_faces start1.about.vm
theorem rf_sz : start1.about.vm.classes.size = 87 := by decide +kernel
theorem rf_dp : (List.range 87).all (fun i => tr_deep start1.about.vm 87 i) = true := by decide +kernel
theorem rf_cp : (List.range 87).all (fun i => match start1.about.vm.classes[i]? with | some k => (match k.kind with | .array c _ => decide (c < 87) | _ => true) | none => true) = true := by decide +kernel
theorem rf_ok : tr_ok start1.about.vm := by
  constructor
  · intro i hi
    rw [rf_sz] at hi ⊢
    exact List.all_eq_true.mp rf_dp i (List.mem_range.mpr hi)
  · intro i k c t hk hkind
    have hi := tr_lt hk
    rw [rf_sz] at hi ⊢
    have h1 := List.all_eq_true.mp rf_cp i (List.mem_range.mpr hi)
    rw [hk] at h1
    simp only [hkind] at h1
    exact of_decide_eq_true h1
theorem rf_hv : rf_s.vm = tr_v start1.about.vm rf_K := rfl
theorem rf_Km : rf_K.methods = #[] := rfl
theorem rf_tr {c : Jvm.Cond} (hc : tr_kind rf_fs c = true) (h : c ∈ tables_1) : c.before start1.args0 rf_s = true := tr_main rf_ok rf_Km rf_hv hc (start1.words c (List.mem_cons_of_mem _ h))
end XTf
