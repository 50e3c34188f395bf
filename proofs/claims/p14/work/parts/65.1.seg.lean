section XRn
set_option maxRecDepth 100000 in
theorem x_seg1 : x_eqG (x_upN x_pr (xc_493 52 x_scr) 100000 30 31 x_Gp1) x_Gp2 = true := by decide +kernel
end XRn
