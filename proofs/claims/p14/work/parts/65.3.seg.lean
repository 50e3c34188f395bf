section XRn
set_option maxRecDepth 100000 in
theorem x_seg3 : x_eqG (x_upN x_pr (xc_493 52 x_scr) 100000 30 260 x_Gp3) x_Gp4 = true := by decide +kernel
end XRn
