/-! THE PLAIN MACHINE: a small machine over whole numbers; every method of the claim runs on it (its tables stand in later parts), and what it answers the real machine answers too (parts 04 and on). -/
abbrev AV : Type := Int ⊕ Int ⊕ Int
abbrev AL : Type := List (Option AV)
/-- a world: how many cells, how many slots, each cell's shape (code, length), what it holds -/
abbrev AW : Type := Nat × Nat × (Nat → Nat × Nat) × (Nat → Int → Int)
/-- an instruction with what its link is: two numbers and a value -/
abbrev RI : Type := Instr × Nat × Nat × Int
def w32 (x : Int) : Int := x.bmod 4294967296
def w64 (x : Int) : Int := x.bmod 18446744073709551616
def i32 (f : Int32 → Int32 → Int32) (x y : Int) : Int := (f (Int32.ofInt x) (Int32.ofInt y)).toInt
def i64 (f : Int64 → Int64 → Int64) (x y : Int) : Int := (f (Int64.ofInt x) (Int64.ofInt y)).toInt
def adr (x : Int) : Nat := (x - 1).toNat
def acat : AV → Nat
  | .inl _ => 1
  | .inr (.inl _) => 2
  | .inr (.inr _) => 1
def asum : List AV → Nat
  | [] => 0
  | v :: l => acat v + asum l
/-- the local ahead of place k is no long any more -/
def clr (ls : AL) (k : Nat) : AL := match k with
  | 0 => ls
  | k + 1 => match ls.getD k none with
    | some (.inr (.inl _)) => ls.set k none
    | _ => ls
def sto1 (ls : AL) (k : Nat) (v : AV) : AL := (clr ls k).set k (some v)
def sto2 (ls : AL) (k : Nat) (v : AV) : AL := ((clr ls k).set k (some v)).set (k + 1) none
def upC (C : Nat → Int → Int) (a : Nat) (i v : Int) : Nat → Int → Int := fun a' i' => if a' = a ∧ i' = i then v else C a' i'
def cpC (C : Nat → Int → Int) (s : Nat) (sp : Int) (t : Nat) (tp n : Int) : Nat → Int → Int := fun a' i' => if a' = t ∧ tp ≤ i' ∧ i' < tp + n then C s (sp + (i' - tp)) else C a' i'
def upS (S : Nat → Nat × Nat) (a : Nat) (v : Nat × Nat) : Nat → Nat × Nat := fun a' => if a' = a then v else S a'
def alloc (w : AW) (c n : Nat) : AW := (w.1 + 1, w.2.1 + n, upS w.2.2.1 w.1 (c, n), w.2.2.2)
def tagv (kd : Int) (v : Int) : AV := if kd = 1 then .inr (.inl v) else if kd = 2 then .inr (.inr v) else .inl v
section Pops
variable {β : Type}
def pI (st : List AV) (ks : β) (k : Int → List AV → β) : β := match st with
  | .inl x :: st => k x st
  | _ => ks
def pII (st : List AV) (ks : β) (k : Int → Int → List AV → β) : β := match st with
  | .inl y :: .inl x :: st => k x y st
  | _ => ks
def pJ (st : List AV) (ks : β) (k : Int → List AV → β) : β := match st with
  | .inr (.inl x) :: st => k x st
  | _ => ks
def pJJ (st : List AV) (ks : β) (k : Int → Int → List AV → β) : β := match st with
  | .inr (.inl y) :: .inr (.inl x) :: st => k x y st
  | _ => ks
def pA (st : List AV) (ks : β) (k : Int → List AV → β) : β := match st with
  | .inr (.inr x) :: st => k x st
  | _ => ks
def swi (x : Int) (pc : Nat) (d : Int) (k : Nat → β) : List Int → Int → β
  | [], _ => k ((pc : Int) + d).toNat
  | o :: os, lo => if x = lo then k ((pc : Int) + o).toNat else swi x pc d k os (lo + 1)
def swl (x : Int) (pc : Nat) (d : Int) (k : Nat → β) : List (Int × Int) → β
  | [] => k ((pc : Int) + d).toNat
  | o :: os => if x = o.1 then k ((pc : Int) + o.2).toNat else swl x pc d k os
end Pops
