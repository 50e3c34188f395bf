section XSi
variable {D : va_G} {tc : Nat → ClassId} {b0 : Nat} {ex : Nat → Nat} {L : Nat} {xs : Nat → Int32}
theorem xvd_416 : ∀ q ∈ ([(20, 404)] : List (Nat × Nat)), x_vokD (xu D tc b0 ex L xs) x_mt "RelayHallModel" 732 0 q := (List.forall_mem_cons.mpr ⟨⟨"RelayHallModel", xT_20, 46, rfl, xj_404, gw_3080, gw_180, gw_3078⟩, (fun _ h => absurd h List.not_mem_nil)⟩)
theorem xsd_416 : x_okD (xu D tc b0 ex L xs) x_mt xm_416 11 (xi_callV 14 0 [(20, 404)]) := xd_callV x_hG xvd_416 (by decide +kernel : decode prog_14_method_102_code 11 = .ok (.invokevirtual 732, 3))
theorem xse_416 : (x_pr 416).2 11 = xi_callV 14 0 [(20, 404)] := rfl
theorem xvd_415 : ∀ q ∈ ([(20, 416)] : List (Nat × Nat)), x_vokD (xu D tc b0 ex L xs) x_mt "RelayHallModel" 899 1 q := (List.forall_mem_cons.mpr ⟨⟨"RelayHallModel", xT_20, 46, rfl, xj_416, gw_3181, gw_188, gw_3179⟩, (fun _ h => absurd h List.not_mem_nil)⟩)
theorem xsd_415 : x_okD (xu D tc b0 ex L xs) x_mt xm_415 50 (xi_callV 53 1 [(20, 416)]) := xd_callV x_hG xvd_415 (by decide +kernel : decode prog_14_method_133_code 50 = .ok (.invokevirtual 899, 3))
theorem xse_415 : (x_pr 415).2 50 = xi_callV 53 1 [(20, 416)] := rfl
theorem xvd_397 : ∀ q ∈ ([(20, 415)] : List (Nat × Nat)), x_vokD (xu D tc b0 ex L xs) x_mt "RelayHallModel" 888 1 q := (List.forall_mem_cons.mpr ⟨⟨"RelayHallModel", xT_20, 46, rfl, xj_415, gw_3177, gw_187, gw_3175⟩, (fun _ h => absurd h List.not_mem_nil)⟩)
theorem xsd_397 : x_okD (xu D tc b0 ex L xs) x_mt xm_397 242 (xi_callV 245 1 [(20, 415)]) := xd_callV x_hG xvd_397 (by decide +kernel : decode prog_14_method_132_code 242 = .ok (.invokevirtual 888, 3))
theorem xse_397 : (x_pr 397).2 242 = xi_callV 245 1 [(20, 415)] := rfl
theorem xvd_390 : ∀ q ∈ ([(20, 397)] : List (Nat × Nat)), x_vokD (xu D tc b0 ex L xs) x_mt "RelayHallModel" 947 2 q := (List.forall_mem_cons.mpr ⟨⟨"RelayHallModel", xT_20, 46, rfl, xj_397, gw_3052, gw_173, gw_3050⟩, (fun _ h => absurd h List.not_mem_nil)⟩)
theorem xsd_390 : x_okD (xu D tc b0 ex L xs) x_mt xm_390 181 (xi_callV 184 2 [(20, 397)]) := xd_callV x_hG xvd_390 (by decide +kernel : decode prog_14_method_140_code 181 = .ok (.invokevirtual 947, 3))
theorem xse_390 : (x_pr 390).2 181 = xi_callV 184 2 [(20, 397)] := rfl
theorem xvd_317 : ∀ q ∈ ([(20, 390)] : List (Nat × Nat)), x_vokD (xu D tc b0 ex L xs) x_mt "RelayHallModel" 985 3 q := (List.forall_mem_cons.mpr ⟨⟨"RelayHallModel", xT_20, 46, rfl, xj_390, gw_3022, gw_166, gw_3020⟩, (fun _ h => absurd h List.not_mem_nil)⟩)
theorem xsd_317 : x_okD (xu D tc b0 ex L xs) x_mt xm_317 232 (xi_callV 235 3 [(20, 390)]) := xd_callV x_hG xvd_317 (by decide +kernel : decode prog_14_method_147_code 232 = .ok (.invokevirtual 985, 3))
theorem xse_317 : (x_pr 317).2 232 = xi_callV 235 3 [(20, 390)] := rfl
theorem xvd_316 : ∀ q ∈ ([(20, 317)] : List (Nat × Nat)), x_vokD (xu D tc b0 ex L xs) x_mt "RelayHallModel" 995 1 q := (List.forall_mem_cons.mpr ⟨⟨"RelayHallModel", xT_20, 46, rfl, xj_317, gw_2659, gw_109, gw_2657⟩, (fun _ h => absurd h List.not_mem_nil)⟩)
theorem xsd_316 : x_okD (xu D tc b0 ex L xs) x_mt xm_316 22 (xi_callV 25 1 [(20, 317)]) := xd_callV x_hG xvd_316 (by decide +kernel : decode prog_14_method_148_code 22 = .ok (.invokevirtual 995, 3))
theorem xse_316 : (x_pr 316).2 22 = xi_callV 25 1 [(20, 317)] := rfl
theorem xvd_315 : ∀ q ∈ ([(20, 316)] : List (Nat × Nat)), x_vokD (xu D tc b0 ex L xs) x_mt "RelayHallModel" 1009 1 q := (List.forall_mem_cons.mpr ⟨⟨"RelayHallModel", xT_20, 46, rfl, xj_316, gw_2655, gw_108, gw_2653⟩, (fun _ h => absurd h List.not_mem_nil)⟩)
theorem xsd_315 : x_okD (xu D tc b0 ex L xs) x_mt xm_315 101 (xi_callV 104 1 [(20, 316)]) := xd_callV x_hG xvd_315 (by decide +kernel : decode prog_14_method_152_code 101 = .ok (.invokevirtual 1009, 3))
theorem xse_315 : (x_pr 315).2 101 = xi_callV 104 1 [(20, 316)] := rfl
theorem xvd_493 : ∀ q ∈ ([(20, 315)] : List (Nat × Nat)), x_vokD (xu D tc b0 ex L xs) x_mt "RelayHallLaw" 45 1 q := (List.forall_mem_cons.mpr ⟨⟨"RelayHallModel", xT_20, 46, rfl, xj_315, gw_2650, gw_2651, gw_2649⟩, (fun _ h => absurd h List.not_mem_nil)⟩)
theorem xsd_493 : x_okD (xu D tc b0 ex L xs) x_mt xm_493 216 (xi_callV 219 1 [(20, 315)]) := xd_callV x_hG xvd_493 (by decide +kernel : decode code 216 = .ok (.invokevirtual 45, 3))
theorem xse_493 : xc_493 L xs 216 = xi_callV 219 1 [(20, 315)] := rfl
def x_ds (j k : Nat) : Bool := (Nat.beq j 416 && Nat.beq k 11) || (Nat.beq j 415 && Nat.beq k 50) || (Nat.beq j 397 && Nat.beq k 242) || (Nat.beq j 390 && Nat.beq k 181) || (Nat.beq j 317 && Nat.beq k 232) || (Nat.beq j 316 && Nat.beq k 22) || (Nat.beq j 315 && Nat.beq k 101)
theorem x_hds : ∀ j k, x_ds j k = true → x_okD (xu D tc b0 ex L xs) (fun j => (x_pr j).1) (x_pr j).1 k ((x_pr j).2 k) := by
  intro j k h
  unfold x_ds at h
  simp only [Bool.or_eq_true, Bool.and_eq_true] at h
  rcases h with (((((((⟨h1, h2⟩) | ⟨h1, h2⟩) | ⟨h1, h2⟩) | ⟨h1, h2⟩) | ⟨h1, h2⟩) | ⟨h1, h2⟩) | ⟨h1, h2⟩)
  · have e1 := Nat.eq_of_beq_eq_true h1
    have e2 := Nat.eq_of_beq_eq_true h2
    subst e1
    subst e2
    rw [xse_416]
    exact xsd_416
  · have e1 := Nat.eq_of_beq_eq_true h1
    have e2 := Nat.eq_of_beq_eq_true h2
    subst e1
    subst e2
    rw [xse_415]
    exact xsd_415
  · have e1 := Nat.eq_of_beq_eq_true h1
    have e2 := Nat.eq_of_beq_eq_true h2
    subst e1
    subst e2
    rw [xse_397]
    exact xsd_397
  · have e1 := Nat.eq_of_beq_eq_true h1
    have e2 := Nat.eq_of_beq_eq_true h2
    subst e1
    subst e2
    rw [xse_390]
    exact xsd_390
  · have e1 := Nat.eq_of_beq_eq_true h1
    have e2 := Nat.eq_of_beq_eq_true h2
    subst e1
    subst e2
    rw [xse_317]
    exact xsd_317
  · have e1 := Nat.eq_of_beq_eq_true h1
    have e2 := Nat.eq_of_beq_eq_true h2
    subst e1
    subst e2
    rw [xse_316]
    exact xsd_316
  · have e1 := Nat.eq_of_beq_eq_true h1
    have e2 := Nat.eq_of_beq_eq_true h2
    subst e1
    subst e2
    rw [xse_315]
    exact xsd_315
def x_ft (j k : Nat) (st : List Value) (h : xH) : Bool := Nat.beq j 404 && (Nat.beq k 106 && match st with
  | .ref v :: .int i :: .ref a :: _ => Nat.beq v 1000000202 && (match h[a]? with
    | some (.inl w) => Nat.beq w.1 20 && decide (¬ (i < 0 ∨ w.2.1 ≤ i.toNatClampNeg))
    | _ => false)
  | _ => false)
theorem x_hf0 : ∀ j st h, x_ft j 0 st h = false := by
  intro j st h
  unfold x_ft
  cases Nat.beq j 404 <;> rfl
theorem x_hft : x_ftok (xu D tc b0 ex L xs) x_pr x_ft := by
  intro p l e R s m args below meth c j k hc hx hB lv st h nc ns hf
  unfold x_ft at hf
  rw [Bool.and_eq_true, Bool.and_eq_true] at hf
  obtain ⟨h1, h2, h3⟩ := hf
  have e1 := Nat.eq_of_beq_eq_true h1
  have e2 := Nat.eq_of_beq_eq_true h2
  subst e1
  subst e2
  split at h3
  · rename_i v i a r
    rw [Bool.and_eq_true] at h3
    obtain ⟨h4, h5⟩ := h3
    have e4 := Nat.eq_of_beq_eq_true h4
    subst e4
    split at h5
    · rename_i w hw
      rw [Bool.and_eq_true] at h5
      obtain ⟨h6, h7⟩ := h5
      obtain ⟨t', n, l'⟩ := w
      have e6 : t' = 20 := Nat.eq_of_beq_eq_true h6
      subst e6
      have h7 := of_decide_eq_true h7
      have hE := hc.2.2.2.2.2.2.2.2
      have hAO := (hE.2.2.1 (Cond.arrayOver (.array .byte)) (x_nW 27 (by decide +kernel))).2
      obtain ⟨comp, cc, kc, f1, -, f3, f4, f5⟩ := arrayOverA_spec hAO
      have hRA : s.vm.findClass ("[" ++ (FieldType.array .byte).toString) = some (tc 20) := (hE.2.2.2.2.1.2 20 (tc 20, .array .byte) rfl).2
      have ecc : cc = tc 20 := Option.some.inj (f5.symm.trans hRA)
      subst ecc
      have f1' : s.vm.findClass "[B" = some comp := f1
      obtain ⟨kcomp, hkc, -⟩ := Vm.findClass_spec f1'
      exact x_fatal (u := xu D tc b0 ex L xs) (y := (x_pr 404).1) (t := 20) (cA := tc 20) hc hx hB ⟨comp, kcomp, f1', hkc, kc, f3, f4⟩ rfl hw h7 (by decide +kernel : decode prog_14_method_8_code 106 = .ok (.aastore, 1))
    · cases h5
  · cases h3
end XSi
