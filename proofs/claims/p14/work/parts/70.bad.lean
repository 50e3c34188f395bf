section XBad
/-- one more array kind, over java/lang/Object's number, its component's type byte by name; nobody asks for its name -/
def rf_K : Class := { start1.cArr "rf" 1 .byte with interfaces := #[34] }
def rf_scr : Array Value := (x_scl.map Value.int).toArray
def rf_below : List Frame := [.proc { proc := .initRefused 0 }]
/-- the claim's own witness, with that kind behind its table, EMPTY of it, and the script -/
def rf_s : State := { start1.aboutOf rf_scr with vm := { (start1.aboutOf rf_scr).vm with classes := (start1.aboutOf rf_scr).vm.classes.push rf_K }, heap := (start1.aboutOf rf_scr).heap.setIfInBounds 16 { cls := 87, slots := #[], vm := .none }, threads := #[{ frames := .invoking ⟨0, 0⟩ start1.args0 :: rf_below }] }
theorem rf_word_code : (Cond.code x code maxLocals ret).before start1.args0 rf_s = true := su_hand_word (m := ⟨0, 0⟩) (by decide +kernel) rfl (by decide +kernel) (by decide +kernel)
theorem rf_narrow : (Cond.and given_1 narrow_1).before start1.args0 rf_s = true := by decide +kernel
theorem rf_rest : rest_1_c.before start1.args0 rf_s = true := by decide +kernel
theorem rf_args : argsFit rf_s.vm ⟨0, 0⟩ start1.args0 = true := by decide +kernel
theorem rf_heap : heapFits rf_s = true := by decide +kernel
end XBad
