section XTry
/-- the constructor of the class, from no cells but its own -/
noncomputable def x_t1 : xRes := x_run x_pr 400 12 0 0 (lv_args 0 [.ref 0]) [] [.inr (0, xD_0)] 0 0
theorem x_t1_ok : (match x_t1 with | some (r, h, nc, ns) => decide (r = none) && decide (h.length = nc + 1) && decide (0 < ns) | none => false) = true := by decide +kernel
end XTry
