/-! both constructors, run by the kernel -/
def hZ : AH := (0, 0, fun _ => (0, 0), fun _ _ => 0, fun _ _ => 0, fun _ _ => none)
def hA1 : AH := hZ.push (11, 15)
def oA2 : Option AH := FC_X11_init [.ref 0] hA1
def hA2 : AH := oA2.getD hZ
def hA3 : AH := hA2.push (12, 63)
def oA4 : Option AH := FC_X12_init [.ref 74] hA3
def hA4 : AH := oA4.getD hZ
theorem opt_get {α : Type} {x : Option α} {d : α} (h : x.isSome = true) : x = some (x.getD d) := by
  cases x with
  | none => cases h
  | some v => rfl
set_option maxRecDepth 100000 in
theorem oA2_some : oA2 = some hA2 := opt_get (by decide +kernel)
set_option maxRecDepth 100000 in
theorem hA2_n : hA2.n = 74 := by decide +kernel
set_option maxRecDepth 100000 in
theorem oA4_some : oA4 = some hA4 := opt_get (by decide +kernel)
set_option maxRecDepth 100000 in
theorem hA4_n : hA4.n = 113 ∧ hA4.sl = 6344 := by decide +kernel
set_option maxRecDepth 100000 in
theorem hA4_sh : (List.range 113).all (fun a => hA4.sh a == SHf a) = true := by decide +kernel
set_option maxRecDepth 100000 in
theorem hA4_R : (List.range 113).all (fun a => bif nlt (SHf a).1 100 || Nat.ble 104 (SHf a).1 then (List.range (SHf a).2).all (fun k => hA4.R a k == RF 13 20 a k) else true) = true := by decide +kernel
def I0 (a k : Nat) : Int32 := bif Nat.beq a 5 || Nat.beq a 75 then 3 else bif Nat.beq a 59 || Nat.beq a 109 then -1 else bif (Nat.beq a 13 || Nat.beq a 20) && Nat.beq k 6 then 6 else 0
set_option maxRecDepth 100000 in
theorem hA4_I : (List.range 113).all (fun a => (List.range (SHf a).2).all (fun k => hA4.I a k == I0 a k)) = true := by decide +kernel
set_option maxRecDepth 100000 in
theorem hA4_L : (List.range 113).all (fun a => bif Nat.beq (SHf a).1 101 then (List.range (SHf a).2).all (fun k => hA4.L a k == 0) else true) = true := by decide +kernel
