section XRn
set_option maxRecDepth 100000 in
theorem x_seg5 : x_eqG (x_upN x_pr (xc_493 52 x_scr) 100000 30 26 x_Gp5) x_Gp6 = true := by decide +kernel
end XRn
