/-! THE REAL MACHINE beside the plain one: what a value, the locals, a cell of the plain world is there. -/
/-- base of the new cells, where the constants lie, the unknown reference, class numbers, slots of fields -/
abbrev GE : Type := Nat × (Nat → Nat) × Option Nat × (Nat → ClassId) × (Nat → Nat → Nat)
def gad (G : GE) (a : Nat) : Nat := if a < 53 then G.2.1 a else G.1 + (a - 53)
def grf (G : GE) (x : Int) : Value := if x = 0 then .null else if 0 < x then .ref (gad G (adr x)) else va_rf G.2.2.1
def gv (G : GE) : AV → Value
  | .inl x => .int (Int32.ofInt x)
  | .inr (.inl x) => .long (Int64.ofInt x)
  | .inr (.inr x) => grf G x
def okv : AV → Prop
  | .inl x => ∃ i : Int32, x = i.toInt
  | .inr (.inl x) => ∃ i : Int64, x = i.toInt
  | .inr (.inr _) => True
theorem gv_i (G : GE) (i : Int32) : gv G (.inl i.toInt) = .int i := by simp [gv]
theorem gv_l (G : GE) (i : Int64) : gv G (.inr (.inl i.toInt)) = .long i := by simp [gv]
theorem gv_a (G : GE) {x : Int} (h : 0 < x) : gv G (.inr (.inr x)) = .ref (gad G (adr x)) := by simp [gv, grf, h]; omega
theorem gv_n (G : GE) : gv G (.inr (.inr 0)) = .null := by simp [gv, grf]
theorem gv_ref (G : GE) (x : Int) : gv G (.inr (.inr x)) = .null ∨ ∃ a, gv G (.inr (.inr x)) = .ref a := by
  show grf G x = .null ∨ ∃ a, grf G x = .ref a
  unfold grf
  by_cases h0 : x = 0
  · exact Or.inl (if_pos h0)
  · rw [if_neg h0]
    by_cases h1 : 0 < x
    · exact Or.inr ⟨_, if_pos h1⟩
    · rw [if_neg h1]
      cases h : G.2.2.1 with
      | none => exact Or.inl rfl
      | some a => exact Or.inr ⟨a, rfl⟩
theorem gv_cat (G : GE) (v : AV) : (gv G v).category = acat v := by
  rcases v with x | x | x
  · rfl
  · rfl
  · rcases gv_ref G x with h | ⟨a, h⟩ <;> rw [h] <;> rfl
theorem gv_sum (G : GE) (st : List AV) : ((st.map (gv G)).map fun v => v.category).sum = asum st := by
  induction st with
  | nil => rfl
  | cons v st ih => simp only [List.map_cons, List.sum_cons, asum, gv_cat, ih]
/-- numbers -/
theorem e_add (i j : Int32) : w32 (i.toInt + j.toInt) = (i + j).toInt := by simp [w32]
theorem e_sub (i j : Int32) : w32 (i.toInt - j.toInt) = (i - j).toInt := by simp [w32]
theorem e_mul (i j : Int32) : w32 (i.toInt * j.toInt) = (i * j).toInt := by simp [w32]
theorem e_div (i j : Int32) : w32 (i.toInt.tdiv j.toInt) = (i / j).toInt := by simp [w32]
theorem e_neg (i : Int32) : w32 (-i.toInt) = (-i).toInt := by simp [w32]
theorem e_rem (i j : Int32) : i.toInt.tmod j.toInt = (i - i / j * j).toInt := by
  rw [show i - i / j * j = i % j from ?_, Int32.toInt_mod]
  apply Int32.toInt_inj.mp
  rw [Int32.toInt_mod, Int32.toInt_sub, Int32.toInt_mul, Int32.toInt_div]
  have h : i.toInt - i.toInt.tdiv j.toInt * j.toInt = i.toInt.tmod j.toInt := by
    rw [Int.tmod_def, Int.mul_comm]
  have hb : (i.toInt.tmod j.toInt).bmod (2 ^ 32) = i.toInt.tmod j.toInt := by
    rw [← Int32.toInt_mod]; exact Int32.toInt_bmod_size _
  rw [show (i.toInt - ((i.toInt.tdiv j.toInt).bmod (2 ^ 32) * j.toInt).bmod (2 ^ 32)).bmod (2 ^ 32) = (i.toInt - i.toInt.tdiv j.toInt * j.toInt).bmod (2 ^ 32) by simp, h, hb]
theorem l_add (i j : Int64) : w64 (i.toInt + j.toInt) = (i + j).toInt := by simp [w64]
theorem l_sub (i j : Int64) : w64 (i.toInt - j.toInt) = (i - j).toInt := by simp [w64]
theorem l_mul (i j : Int64) : w64 (i.toInt * j.toInt) = (i * j).toInt := by simp [w64]
theorem l_div (i j : Int64) : w64 (i.toInt.tdiv j.toInt) = (i / j).toInt := by simp [w64]
theorem l_rem (i j : Int64) : i.toInt.tmod j.toInt = (i - i / j * j).toInt := by
  rw [show i - i / j * j = i % j from ?_, Int64.toInt_mod]
  apply Int64.toInt_inj.mp
  rw [Int64.toInt_mod, Int64.toInt_sub, Int64.toInt_mul, Int64.toInt_div]
  have h : i.toInt - i.toInt.tdiv j.toInt * j.toInt = i.toInt.tmod j.toInt := by
    rw [Int.tmod_def, Int.mul_comm]
  have hb : (i.toInt.tmod j.toInt).bmod (2 ^ 64) = i.toInt.tmod j.toInt := by
    rw [← Int64.toInt_mod]; exact Int64.toInt_bmod_size _
  rw [show (i.toInt - ((i.toInt.tdiv j.toInt).bmod (2 ^ 64) * j.toInt).bmod (2 ^ 64)).bmod (2 ^ 64) = (i.toInt - i.toInt.tdiv j.toInt * j.toInt).bmod (2 ^ 64) by simp, h, hb]
theorem e_op (f : Int32 → Int32 → Int32) (i j : Int32) : i32 f i.toInt j.toInt = (f i j).toInt := by simp [i32]
theorem l_op (f : Int64 → Int64 → Int64) (i j : Int64) : i64 f i.toInt j.toInt = (f i j).toInt := by simp [i64]
theorem e_l2i (i : Int64) : w32 i.toInt = i.toInt32.toInt := by simp [w32]
theorem e_i2b (i : Int32) : i.toInt.bmod 256 = i.toInt8.toInt32.toInt := by simp
theorem e_i2c (i : Int32) : i.toInt % 65536 = ((i.toUInt32 % 65536).toInt32).toInt := by
  rw [pk_char]
  rw [nI_toInt (by have := Nat.mod_lt i.toBitVec.toNat (show 65536 > 0 by decide); omega)]
  have h : i.toInt = i.toBitVec.toInt := rfl
  rw [h, BitVec.toInt_eq_toNat_bmod]
  rw [Int.bmod_def]
  split <;> omega
theorem e_cmp (i j : Int64) : (if i.toInt < j.toInt then (-1 : Int) else if i.toInt = j.toInt then 0 else 1) = (lg_cmp i j).toInt := by
  unfold lg_cmp
  simp only [gt_iff_lt, Int64.lt_iff_toInt_lt, ← Int64.toInt_inj]
  by_cases h1 : j.toInt < i.toInt
  · rw [if_pos h1, if_neg (by omega), if_neg (by omega)]; rfl
  · by_cases h2 : i.toInt = j.toInt
    · rw [if_neg h1, if_pos h2, if_neg (by omega), if_pos h2]; rfl
    · rw [if_pos (show i.toInt < j.toInt by omega), if_neg h1, if_neg h2]; rfl
