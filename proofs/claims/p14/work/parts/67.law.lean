section XLd
variable {D : va_G} {tc : Nat → ClassId} {b0 : Nat} {ex : Nat → Nat} {l : Launch}
theorem x_sendDy (hx : x_HX b0 ex) : x_Dy (xu D tc b0 ex 52 x_scr) l (x_pr 315).1 30 [.ref 114, .int 0] x_Hp6 8 222 := x_dy (x_hok hx) x_hpl x_hft x_hf0 x_hds (by decide +kernel) x_sendD
/-- THE LAW NEVER RETURNS on this script, where EMPTY may not stand in a byte[][] -/
theorem x_lawDy (hx : x_HX b0 ex) : x_Dy (xu D tc b0 ex 52 x_scr) l xm_493 32 [.ref 1000000001] [] 222 51714 := by
  refine x_dy_of (by decide +kernel) (by decide +kernel) ?_
  intro p e s m args below meth c hc hxt hB
  have hf : 30 + 2 ≤ (x_rm 32 222 51714).frames := by decide
  have hl : 64 * (30 + 2) ≤ (x_rm 32 222 51714).locals := by decide
  have hfin : x_KG (xu D tc b0 ex 52 x_scr) xm_493.2.2.1 p l e (x_rm 32 222 51714) s m args below meth c (Refuse.Cert p.tables below) x_Gp6 := by
    refine ((xsd_493 (L := 52) (xs := x_scr)) p l e (x_rm 32 222 51714) s m args below meth c hc hxt hB x_Gp6.2.1 x_Gp6.2.2.1 x_Hp6 214 51492 315 [.ref 114, .int 0] _ rfl).2.2 30 8 222 (x_sendDy hx) (by decide) (by decide) (by decide) (by decide)
  have h5 : x_KG (xu D tc b0 ex 52 x_scr) xm_493.2.2.1 p l e (x_rm 32 222 51714) s m args below meth c (Refuse.Cert p.tables below) x_Gp5 := (x_upN_ok (x_hok hx) x_hpl (xk_493 hx) hc hf hl 26 (x_eqG_eq x_seg5)).2.2 (by decide) (by decide) hfin
  have h4 : x_KG (xu D tc b0 ex 52 x_scr) xm_493.2.2.1 p l e (x_rm 32 222 51714) s m args below meth c (Refuse.Cert p.tables below) x_Gp4 := (x_upN_ok (x_hok hx) x_hpl (xk_493 hx) hc hf hl 260 (x_eqG_eq x_seg4)).2.2 (by decide) (by decide) h5
  have h3 : x_KG (xu D tc b0 ex 52 x_scr) xm_493.2.2.1 p l e (x_rm 32 222 51714) s m args below meth c (Refuse.Cert p.tables below) x_Gp3 := (x_upN_ok (x_hok hx) x_hpl (xk_493 hx) hc hf hl 260 (x_eqG_eq x_seg3)).2.2 (by decide) (by decide) h4
  have h2 : x_KG (xu D tc b0 ex 52 x_scr) xm_493.2.2.1 p l e (x_rm 32 222 51714) s m args below meth c (Refuse.Cert p.tables below) x_Gp2 := (x_upN_ok (x_hok hx) x_hpl (xk_493 hx) hc hf hl 195 (x_eqG_eq x_seg2)).2.2 (by decide) (by decide) h3
  have h1 : x_KG (xu D tc b0 ex 52 x_scr) xm_493.2.2.1 p l e (x_rm 32 222 51714) s m args below meth c (Refuse.Cert p.tables below) x_Gp1 := (x_upN_ok (x_hok hx) x_hpl (xk_493 hx) hc hf hl 31 (x_eqG_eq x_seg1)).2.2 (by decide) (by decide) h2
  have h0 : x_KG (xu D tc b0 ex 52 x_scr) xm_493.2.2.1 p l e (x_rm 32 222 51714) s m args below meth c (Refuse.Cert p.tables below) x_Gp0 := (x_upN_ok (x_hok hx) x_hpl (xk_493 hx) hc hf hl 13 (x_eqG_eq x_seg0)).2.2 (by decide) (by decide) h1
  exact h0
end XLd
