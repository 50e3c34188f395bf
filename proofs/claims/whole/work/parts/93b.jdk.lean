section XJ
/-! what the library's members do to the picture -/
def Pic.elb (C : Pic) (x : Option Nat) : Bool := match x with
  | none => true
  | some a => (C.ob 1 a).isSome || (C.ob 7 a).isSome || (C.ob 13 a).isSome || (C.ob 14 a).isSome || (C.ob 15 a).isSome || (C.ob 16 a).isSome || (C.ig a).isSome
def c_4 (C : Pic) (v0 : Option Nat) : Option (Unit × Pic) := v0.bind fun a => if C.ot a = some 2 then some ((), ((C.sot (xdel C.ot a)).sal (xup C.al a (0, []))).mk C.nx C.sl (xupK C.kd a 2)) else none
def c_150 (C : Pic) (v0 : Option Nat) : Option (Int32 × Pic) := (C.gal v0).bind fun q => some (Int32.ofNat q.2.length, C)
def c_219 (C : Pic) (v0 : Option Nat) : Option (Int32 × Pic) := (C.gal v0).bind fun q => some (if q.2.length = 0 then 1 else 0, C)
def c_151 (C : Pic) (v0 : Option Nat) (i : Int32) : Option (Option Nat × Pic) := (C.gal v0).bind fun q => if i < 0 ∨ q.2.length ≤ i.toNatClampNeg then none else (q.2[i.toNatClampNeg]?).bind fun x => some (x, C)
/-- the room of a list that grows -/
def x_gro (n : Nat) : Nat := if n = 0 then 10 else n + n / 2
def Pic.alg (C : Pic) (a : Nat) (q : Nat × List (Option Nat)) (l : List (Option Nat)) : Option Pic := if l.length ≤ q.1 then some (C.sal (xup C.al a (q.1, l))) else if C.nx < xT ∧ q.1 < 100000000 then some ((C.sal (xup C.al a (x_gro q.1, l))).mk (C.nx + 1) (C.sl + x_gro q.1) (xupK C.kd C.nx (100 + a))) else none
def c_34 (C : Pic) (v0 x : Option Nat) : Option (Int32 × Pic) := v0.bind fun a => (C.al a).bind fun q => if C.elb x = true ∧ q.2.all C.elb = true then (C.alg a q (q.2 ++ [x])).bind fun C1 => some (1, C1) else none
def c_234 (C : Pic) (v0 : Option Nat) (i : Int32) (x : Option Nat) : Option (Unit × Pic) := v0.bind fun a => (C.al a).bind fun q => if C.elb x = true ∧ q.2.all C.elb = true ∧ ¬ (i < 0 ∨ q.2.length < i.toNatClampNeg) then (C.alg a q (q.2.insertIdx i.toNatClampNeg x)).bind fun C1 => some ((), C1) else none
def c_167 (C : Pic) (v0 : Option Nat) (i : Int32) : Option (Option Nat × Pic) := v0.bind fun a => (C.al a).bind fun q => if q.2.all C.elb = true ∧ ¬ (i < 0 ∨ q.2.length ≤ i.toNatClampNeg) then (q.2[i.toNatClampNeg]?).bind fun x => some (x, C.sal (xup C.al a (q.1, q.2.eraseIdx i.toNatClampNeg))) else none
def c_87 (C : Pic) (v0 : Option Nat) : Option (Unit × Pic) := v0.bind fun a => (C.al a).bind fun q => some ((), C.sal (xup C.al a (q.1, [])))
def c_93 (C : Pic) (v0 : Option Nat) : Option (Int32 × Pic) := (C.gst v0).bind fun l => some (Int32.ofNat l.length, C)
def c_149 (C : Pic) (v0 : Option Nat) : Option (Int32 × Pic) := (C.gst v0).bind fun l => some (if l.length = 0 then 1 else 0, C)
def c_96 (C : Pic) (v0 : Option Nat) (i : Int32) : Option (Int32 × Pic) := (C.gst v0).bind fun l => if i < 0 ∨ l.length ≤ i.toNatClampNeg then none else some (l.getD i.toNatClampNeg 0 &&& 255, C)
def c_154 (C : Pic) (v0 x : Option Nat) : Option (Int32 × Pic) := (C.gst v0).bind fun l => (C.gst x).bind fun l2 => some (if l = l2 then 1 else 0, C)
/-- a new text: the object, and its bytes behind it -/
def Pic.mkst (C : Pic) (l : List Int32) : Option (Nat × Pic) := if C.nx + 1 < xT then some (C.nx, (C.sst (xup C.st C.nx l)).mk (C.nx + 2) (C.sl + 4 + l.length) (xupK (xupK C.kd C.nx 3) (C.nx + 1) (100 + C.nx))) else none
def c_105 (C : Pic) (v0 : Option Nat) (b e : Int32) : Option (Option Nat × Pic) := (C.gst v0).bind fun l => if b < 0 ∨ e < b ∨ l.length < e.toNatClampNeg then none else if b = 0 ∧ e.toNatClampNeg = l.length then some (v0, C) else if b = e then some (some 1000000100, C) else (C.mkst ((l.drop b.toNatClampNeg).take (e.toNatClampNeg - b.toNatClampNeg))).bind fun p => some (some p.1, p.2)
def c_59 (C : Pic) (v0 v1 : Option Nat) : Option (Unit × Pic) := v0.bind fun a => (v1.bind (C.ar 2)).bind fun l => if C.ot a = some 8 ∧ l.all (fun x => decide (0 ≤ x) && decide (x < 256)) = true ∧ C.nx < xT then some ((), ((C.sot (xdel C.ot a)).sst (xup C.st a (l.map fun x => x.toInt8.toInt32))).mk (if l = [] then C.nx else C.nx + 1) (C.sl + l.length) (if l = [] then xupK C.kd a 3 else xupK (xupK C.kd a 3) C.nx (100 + a))) else none
def c_43 (C : Pic) (x y : Int32) : Option (Int32 × Pic) := some (if x ≤ y then x else y, C)
/-- digits of a number that isn't negative -/
def x_dig (n : Nat) : List Int32 := (Nat.repr n).toList.map fun c => Int32.ofNat c.toNat
def c_176 (C : Pic) (v0 : Option Nat) (n : Int32) : Option (Unit × Pic) := v0.bind fun a => (C.sb a).bind fun q => if n = 0 then some ((), C.ssb (xup C.sb a (q.1, []))) else none
def c_124 (C : Pic) (v0 x : Option Nat) : Option (Option Nat × Pic) := v0.bind fun a => (C.sb a).bind fun q => (C.gst x).bind fun l => if q.2.length + l.length ≤ q.1 then some (v0, C.ssb (xup C.sb a (q.1, q.2 ++ l))) else none
def c_113 (C : Pic) (v0 : Option Nat) (n : Int32) : Option (Option Nat × Pic) := v0.bind fun a => (C.sb a).bind fun q => if ¬ n < 0 ∧ q.2.length + (x_dig n.toNatClampNeg).length ≤ q.1 then some (v0, C.ssb (xup C.sb a (q.1, q.2 ++ x_dig n.toNatClampNeg))) else none
def c_134 (C : Pic) (v0 : Option Nat) : Option (Option Nat × Pic) := v0.bind fun a => (C.sb a).bind fun q => (C.mkst q.2).bind fun p => some (some p.1, p.2)
def Pic.gig2 (C : Pic) (o : Option Nat) : Option Int32 := o.bind C.ig
def c_260 (C : Pic) (x : Int32) : Option (Option Nat × Pic) := if -128 ≤ x ∧ x ≤ 127 then some (some (1000003000 + (x + 128).toNatClampNeg), C) else if C.nx < xT then some (some C.nx, (C.sig (xup C.ig C.nx x)).mk (C.nx + 1) (C.sl + 1) (xupK C.kd C.nx 5)) else none
def c_300 (C : Pic) (v0 : Option Nat) : Option (Int32 × Pic) := (C.gig v0).bind fun x => some (x, C)
def Pic.kig (C : Pic) (o : Option Nat) : Option Unit := match o with
  | none => some ()
  | some a => (C.ig a).map fun _ => ()
end XJ
