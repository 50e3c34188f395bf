section XRd
set_option maxRecDepth 100000 in
theorem x_sendD : x_die x_pr x_ft x_ds 100000 30 315 0 (lv_args 0 [.ref 114, .int 0]) [] x_Hp6 0 0 = some (8, 222) := by decide +kernel
end XRd
