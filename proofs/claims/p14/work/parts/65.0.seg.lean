section XRn
set_option maxRecDepth 100000 in
theorem x_seg0 : x_eqG (x_upN x_pr (xc_493 52 x_scr) 100000 30 13 x_Gp0) x_Gp1 = true := by decide +kernel
end XRn
