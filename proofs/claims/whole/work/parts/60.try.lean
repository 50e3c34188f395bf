section XTry
/-- the constructor of the class, from no cells but its own -/
noncomputable def x_t1 : xRes := x_run x_pr 3000 12 14 0 (lv_args 0 [.ref 0, .ref 1, .int 2]) [] [.inr (7, xD_7), .inr (6, xD_6)] 0 0
theorem x_t1_ok : (match x_t1 with | some (r, h, nc, ns) => decide (r = none) && decide (h.length = nc + 2) | none => false) = true := by decide +kernel
noncomputable def x_t2 : xRes := x_run x_pr 3000 12 0 0 (lv_args 0 [.ref 0]) [] [.inr (0, xD_0)] 0 0
theorem x_t2_ok : (match x_t2 with | some (r, h, nc, ns) => decide (r = none) && decide (h.length = nc + 1) | none => false) = true := by decide +kernel
end XTry
