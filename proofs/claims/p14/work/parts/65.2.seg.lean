section XRn
set_option maxRecDepth 100000 in
theorem x_seg2 : x_eqG (x_upN x_pr (xc_493 52 x_scr) 100000 30 195 x_Gp2) x_Gp3 = true := by decide +kernel
end XRn
