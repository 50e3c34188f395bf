section XHole
/-- Two array kinds whose components have one type by name, byte, but aren't one and the same: what is of the one can't be stored where the other is asked for. Of RelayHallModel.EMPTY the claim says only that its components have the type byte. -/
theorem x_hole {vm : Vm} {kx kb : Class} {x b sc tc : ClassId} (h1 : vm.classes[x]? = some kx) (h2 : kx.kind = .array sc .byte) (h3 : vm.classes[b]? = some kb) (h4 : kb.kind = .array tc .byte) (h5 : vm.isPrimitive tc = true) (hne : sc ≠ tc) (hxb : x ≠ b) : vm.assignable x b = false := by
  show vm.assignableAux (255 + 1) x b = false
  rw [Vm.assignableAux]
  simp [h1, h2, h3, h4, h5, hne, hxb]
/-- and what the claim says of it holds of such a one too -/
theorem x_hole_of {args : Array Value} {s : State} {a : Nat} {cell : Cell} {kx : Class} {sc : ClassId} {t : Term} (ht : t.eval args s none [] s = some (.ref a)) (hc : s.heap[a]? = some cell) (hv : cell.vm = .none) (hk : s.vm.classes[cell.cls]? = some kx) (hx : kx.kind = .array sc .byte) : (Cond.arrayOf t .byte).before args s = true := by
  unfold Cond.before Cond.holds
  simp [Cond.value, State.knowsType, ht, hc, hk, hx, hv]
  rfl
end XHole
