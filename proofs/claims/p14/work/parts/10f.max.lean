section XMx
variable {u : xPi} {mt : Nat → xM} {y : xM} {pcs : Nat → Nat} {k k1 kt : Nat}
/-- the greater of two ints, by the machine's own member -/
def xi_mmax (k1 : Nat) : xI := fun lv st h nc ns => match st with
  | .int b :: .int a :: r => if (r.map fun v => v.category).sum + 13 ≤ 64 then some (.inl (k1, lv, .int (if a < b then b else a) :: r, h, nc, ns)) else none
  | _ => none
theorem xo_mmax {idx : Nat} (h1 : Cond.methodLink y.1.cls idx Lib.Math.max.name ∈ xp_G u) (h2 : Cond.static Lib.Math.max.name ∈ xp_G u) (h3 : Cond.initialized "java/lang/Math" ∈ xp_G u) (h4 : Cond.code Lib.Math.max.name Lib.Math.max.code 2 (some .int) ∈ xp_G u) (hd : decode y.2.1 (pcs k) = .ok (.invokestatic idx, 3)) (hn : pcs k1 = pcs k + 3) : x_ok u mt y pcs k (xi_mmax k1) := by
  intro p l e R s m args below meth c hc hf0 hl0 lv st h nc ns o ho
  unfold xi_mmax at ho
  split at ho
  · rename_i b a r
    split at ho
    · rename_i hz
      cases ho
      refine x_go (Nat.le_refl _) (Nat.le_refl _) (fun Q hc1 hc2 hK ls H locs hl hR hS => ?_)
      have hts := hc.2.2.2.2.1
      refine va_mmax hc.1 hc.2.1 (by rw [hc.2.2.1]; exact hl.1.symm) hc.2.2.2.1 (hts _ h1) (hts _ h2) (hts _ h3) (hts _ h4) hf0 ?_ hc1 hc2 hd ?_
      · rw [List.map_map, show (fun v : Value => v.category) ∘ x_v (xp_ad u) = (fun v : Value => v.category) from funext (fun v => x_cat _ v)]
        omega
      · have hW := hK ls H locs hl hR hS
        rw [hn] at hW
        exact hW
    · cases ho
  · cases ho
end XMx
