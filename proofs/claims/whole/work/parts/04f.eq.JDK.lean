def sp_0 : Nat → Bool := fun q => [0, 10].contains q
set_option maxRecDepth 100000 in
theorem E_0_0 (Ls d : Nat) (p1 : Int) (w : AW) : Lm P0 (M0 Ls) d m_Math_abs 0 [some (.inl p1)] [] w = (if p1 < 0 then Lm P0 (M0 Ls) d m_Math_abs 10 [some (.inl p1)] [.inl (w32 (-p1))] w else Lm P0 (M0 Ls) d m_Math_abs 10 [some (.inl p1)] [.inl p1] w) := by
  rw [Lm_unf P0 (M0 Ls) sp_0 7]
  rfl
set_option maxRecDepth 100000 in
theorem E_0_10 (Ls d : Nat) (x0 y0 : Int) (w : AW) : Lm P0 (M0 Ls) d m_Math_abs 10 [some (.inl x0)] [.inl y0] w = some (some (.inl y0), w) := by
  rw [Lm_unf P0 (M0 Ls) sp_0 2]
  rfl
def sp_1 : Nat → Bool := fun q => [0, 18].contains q
set_option maxRecDepth 100000 in
theorem E_1_0 (Ls d : Nat) (p1 p2 : Int) (w : AW) : Lm P0 (M0 Ls) d m_Math_floorMod 0 [some (.inl p1), some (.inl p2), none] [] w = if p2 = 0 then none else (if (i32 (fun x y => x ^^^ y) p1 p2) < 0 then (if (Int.tmod p1 p2) = 0 then Lm P0 (M0 Ls) d m_Math_floorMod 18 [some (.inl p1), some (.inl p2), some (.inl (Int.tmod p1 p2))] [] w else some (some (.inl (w32 ((Int.tmod p1 p2) + p2))), w)) else Lm P0 (M0 Ls) d m_Math_floorMod 18 [some (.inl p1), some (.inl p2), some (.inl (Int.tmod p1 p2))] [] w) := by
  rw [Lm_unf P0 (M0 Ls) sp_1 15]
  rfl
set_option maxRecDepth 100000 in
theorem E_1_18 (Ls d : Nat) (x0 x1 x2 : Int) (w : AW) : Lm P0 (M0 Ls) d m_Math_floorMod 18 [some (.inl x0), some (.inl x1), some (.inl x2)] [] w = some (some (.inl x2), w) := by
  rw [Lm_unf P0 (M0 Ls) sp_1 3]
  rfl
def sp_2 : Nat → Bool := fun q => [0, 10].contains q
set_option maxRecDepth 100000 in
theorem E_2_0 (Ls d : Nat) (p1 p2 : Int) (w : AW) : Lm P0 (M0 Ls) d m_Math_max 0 [some (.inl p1), some (.inl p2)] [] w = (if p1 < p2 then Lm P0 (M0 Ls) d m_Math_max 10 [some (.inl p1), some (.inl p2)] [.inl p2] w else Lm P0 (M0 Ls) d m_Math_max 10 [some (.inl p1), some (.inl p2)] [.inl p1] w) := by
  rw [Lm_unf P0 (M0 Ls) sp_2 7]
  rfl
set_option maxRecDepth 100000 in
theorem E_2_10 (Ls d : Nat) (x0 x1 y0 : Int) (w : AW) : Lm P0 (M0 Ls) d m_Math_max 10 [some (.inl x0), some (.inl x1)] [.inl y0] w = some (some (.inl y0), w) := by
  rw [Lm_unf P0 (M0 Ls) sp_2 2]
  rfl
def sp_3 : Nat → Bool := fun q => [0, 10].contains q
set_option maxRecDepth 100000 in
theorem E_3_0 (Ls d : Nat) (p1 p2 : Int) (w : AW) : Lm P0 (M0 Ls) d m_Math_min 0 [some (.inl p1), some (.inl p2)] [] w = (if p2 < p1 then Lm P0 (M0 Ls) d m_Math_min 10 [some (.inl p1), some (.inl p2)] [.inl p2] w else Lm P0 (M0 Ls) d m_Math_min 10 [some (.inl p1), some (.inl p2)] [.inl p1] w) := by
  rw [Lm_unf P0 (M0 Ls) sp_3 7]
  rfl
set_option maxRecDepth 100000 in
theorem E_3_10 (Ls d : Nat) (x0 x1 y0 : Int) (w : AW) : Lm P0 (M0 Ls) d m_Math_min 10 [some (.inl x0), some (.inl x1)] [.inl y0] w = some (some (.inl y0), w) := by
  rw [Lm_unf P0 (M0 Ls) sp_3 2]
  rfl
def sp_4 : Nat → Bool := fun q => [0, 5].contains q
set_option maxRecDepth 100000 in
theorem E_4_0 (Ls d : Nat) (p1 p2 : Int) (w : AW) : Lm P0 (M0 Ls) d m_Arrays_fill 0 [some (.inr (.inr p1)), some (.inl p2), none, none] [] w = (if 0 < p1 then (if 100 ≤ (shv (M0 Ls) w (adr p1)).1 ∧ (shv (M0 Ls) w (adr p1)).1 ≤ 112 then Lm P0 (M0 Ls) d m_Arrays_fill 5 [some (.inr (.inr p1)), some (.inl p2), some (.inl 0), some (.inl ((shv (M0 Ls) w (adr p1)).2 : Int))] [] w else none) else none) := by
  rw [Lm_unf P0 (M0 Ls) sp_4 7]
  rfl
set_option maxRecDepth 100000 in
theorem E_4_5 (Ls d : Nat) (x0 x1 x2 x3 : Int) (w : AW) : Lm P0 (M0 Ls) d m_Arrays_fill 5 [some (.inr (.inr x0)), some (.inl x1), some (.inl x2), some (.inl x3)] [] w = (if x2 < x3 then (arN (M0 Ls) w x0 100 100 100 none (fun a1 n1 => (if (0 : Int) ≤ x2 ∧ x2 < (n1 : Int) then Lm P0 (M0 Ls) d m_Arrays_fill 5 [some (.inr (.inr x0)), some (.inl x1), some (.inl (w32 (x2 + 1))), some (.inl x3)] [] (wC w a1 x2 x1) else none))) else some (none, w)) := by
  rw [Lm_unf P0 (M0 Ls) sp_4 11]
  rfl
def sp_5 : Nat → Bool := fun q => [0, 7, 10].contains q
set_option maxRecDepth 100000 in
theorem E_5_0 (Ls d : Nat) (p1 p2 p3 p4 : Int) (w : AW) : Lm P0 (M0 Ls) d m_Arrays_fill2 0 [some (.inr (.inr p1)), some (.inl p2), some (.inl p3), some (.inl p4), none] [] w = (if 0 < p1 then (if 100 ≤ (shv (M0 Ls) w (adr p1)).1 ∧ (shv (M0 Ls) w (adr p1)).1 ≤ 112 then Lk P0 (M0 Ls) d m_Arrays_rangeCheck [.inl ((shv (M0 Ls) w (adr p1)).2 : Int), .inl p2, .inl p3] w (fun r_ w_ => Lm P0 (M0 Ls) d m_Arrays_fill2 7 [some (.inr (.inr p1)), some (.inl p2), some (.inl p3), some (.inl p4), none] (r_.toList ++ []) w_) else none) else none) := by
  rw [Lm_unf P0 (M0 Ls) sp_5 6]
  rfl
set_option maxRecDepth 100000 in
theorem E_5_7 (Ls d : Nat) (x0 x1 x2 x3 : Int) (w : AW) : Lm P0 (M0 Ls) d m_Arrays_fill2 7 [some (.inr (.inr x0)), some (.inl x1), some (.inl x2), some (.inl x3), none] [] w = Lm P0 (M0 Ls) d m_Arrays_fill2 10 [some (.inr (.inr x0)), some (.inl x1), some (.inl x2), some (.inl x3), some (.inl x1)] [] w := by
  rw [Lm_unf P0 (M0 Ls) sp_5 4]
  rfl
set_option maxRecDepth 100000 in
theorem E_5_10 (Ls d : Nat) (x0 x1 x2 x3 x4 : Int) (w : AW) : Lm P0 (M0 Ls) d m_Arrays_fill2 10 [some (.inr (.inr x0)), some (.inl x1), some (.inl x2), some (.inl x3), some (.inl x4)] [] w = (if x4 < x2 then (arN (M0 Ls) w x0 100 100 100 none (fun a1 n1 => (if (0 : Int) ≤ x4 ∧ x4 < (n1 : Int) then Lm P0 (M0 Ls) d m_Arrays_fill2 10 [some (.inr (.inr x0)), some (.inl x1), some (.inl x2), some (.inl x3), some (.inl (w32 (x4 + 1)))] [] (wC w a1 x4 x3) else none))) else some (none, w)) := by
  rw [Lm_unf P0 (M0 Ls) sp_5 11]
  rfl
def sp_6 : Nat → Bool := fun q => [0, 7, 10].contains q
set_option maxRecDepth 100000 in
theorem E_6_0 (Ls d : Nat) (p1 p2 p3 p4 : Int) (w : AW) : Lm P0 (M0 Ls) d m_Arrays_fill3 0 [some (.inr (.inr p1)), some (.inl p2), some (.inl p3), some (.inr (.inl p4)), none, none] [] w = (if 0 < p1 then (if 100 ≤ (shv (M0 Ls) w (adr p1)).1 ∧ (shv (M0 Ls) w (adr p1)).1 ≤ 112 then Lk P0 (M0 Ls) d m_Arrays_rangeCheck [.inl ((shv (M0 Ls) w (adr p1)).2 : Int), .inl p2, .inl p3] w (fun r_ w_ => Lm P0 (M0 Ls) d m_Arrays_fill3 7 [some (.inr (.inr p1)), some (.inl p2), some (.inl p3), some (.inr (.inl p4)), none, none] (r_.toList ++ []) w_) else none) else none) := by
  rw [Lm_unf P0 (M0 Ls) sp_6 6]
  rfl
set_option maxRecDepth 100000 in
theorem E_6_7 (Ls d : Nat) (x0 x1 x2 x3 : Int) (w : AW) : Lm P0 (M0 Ls) d m_Arrays_fill3 7 [some (.inr (.inr x0)), some (.inl x1), some (.inl x2), some (.inr (.inl x3)), none, none] [] w = Lm P0 (M0 Ls) d m_Arrays_fill3 10 [some (.inr (.inr x0)), some (.inl x1), some (.inl x2), some (.inr (.inl x3)), none, some (.inl x1)] [] w := by
  rw [Lm_unf P0 (M0 Ls) sp_6 4]
  rfl
set_option maxRecDepth 100000 in
theorem E_6_10 (Ls d : Nat) (x0 x1 x2 x3 x5 : Int) (w : AW) : Lm P0 (M0 Ls) d m_Arrays_fill3 10 [some (.inr (.inr x0)), some (.inl x1), some (.inl x2), some (.inr (.inl x3)), none, some (.inl x5)] [] w = (if x5 < x2 then (arN (M0 Ls) w x0 101 101 101 none (fun a1 n1 => (if (0 : Int) ≤ x5 ∧ x5 < (n1 : Int) then Lm P0 (M0 Ls) d m_Arrays_fill3 10 [some (.inr (.inr x0)), some (.inl x1), some (.inl x2), some (.inr (.inl x3)), none, some (.inl (w32 (x5 + 1)))] [] (wC w a1 x5 x3) else none))) else some (none, w)) := by
  rw [Lm_unf P0 (M0 Ls) sp_6 11]
  rfl
def sp_7 : Nat → Bool := fun q => [0].contains q
set_option maxRecDepth 100000 in
theorem E_7_0 (Ls d : Nat) (p1 p2 p3 : Int) (w : AW) : Lm P0 (M0 Ls) d m_Arrays_rangeCheck 0 [some (.inl p1), some (.inl p2), some (.inl p3)] [] w = (if p3 < p2 then none else (if p2 < 0 then none else (if p1 < p3 then none else some (none, w)))) := by
  rw [Lm_unf P0 (M0 Ls) sp_7 10]
  rfl
def sp_8 : Nat → Bool := fun q => [0, 9].contains q
set_option maxRecDepth 100000 in
theorem E_8_0 (Ls d : Nat) (z0 : Int) (w : AW) : Lm P0 (M0 Ls) d m_Str_length 0 [some (.inr (.inr z0))] [] w = (if 0 < z0 then (if (shv (M0 Ls) w (adr z0)).1 = 60 then (if 0 < (cv (M0 Ls) w (adr z0) 0) then (if 100 ≤ (shv (M0 Ls) w (adr (cv (M0 Ls) w (adr z0) 0))).1 ∧ (shv (M0 Ls) w (adr (cv (M0 Ls) w (adr z0) 0))).1 ≤ 112 then (if 0 < z0 then (if (shv (M0 Ls) w (adr z0)).1 = Int.toNat 60 then Lk P0 (M0 Ls) d m_Str_coder [.inr (.inr z0)] w (fun r_ w_ => Lm P0 (M0 Ls) d m_Str_length 9 [some (.inr (.inr z0))] (r_.toList ++ [.inl ((shv (M0 Ls) w (adr (cv (M0 Ls) w (adr z0) 0))).2 : Int)]) w_) else none) else none) else none) else none) else none) else none) := by
  rw [Lm_unf P0 (M0 Ls) sp_8 6]
  rfl
set_option maxRecDepth 100000 in
theorem E_8_9 (Ls d : Nat) (x0 y0 y1 : Int) (w : AW) : Lm P0 (M0 Ls) d m_Str_length 9 [some (.inr (.inr x0))] [.inl y0, .inl y1] w = some (some (.inl (i32 (fun x y => x >>> (y &&& 31)) y1 y0)), w) := by
  rw [Lm_unf P0 (M0 Ls) sp_8 3]
  rfl
def sp_9 : Nat → Bool := fun q => [0, 14].contains q
set_option maxRecDepth 100000 in
theorem E_9_0 (Ls d : Nat) (z0 : Int) (w : AW) : Lm P0 (M0 Ls) d m_Str_coder 0 [some (.inr (.inr z0))] [] w = (if 0 < z0 then (if (shv (M0 Ls) w (adr z0)).1 = 60 then Lm P0 (M0 Ls) d m_Str_coder 14 [some (.inr (.inr z0))] [.inl (cv (M0 Ls) w (adr z0) 1)] w else none) else none) := by
  rw [Lm_unf P0 (M0 Ls) sp_9 7]
  rfl
set_option maxRecDepth 100000 in
theorem E_9_14 (Ls d : Nat) (x0 y0 : Int) (w : AW) : Lm P0 (M0 Ls) d m_Str_coder 14 [some (.inr (.inr x0))] [.inl y0] w = (if rok 5 y0 = true then some (some (.inl y0), w) else none) := by
  rw [Lm_unf P0 (M0 Ls) sp_9 2]
  rfl
def sp_10 : Nat → Bool := fun q => [0, 17, 18].contains q
set_option maxRecDepth 100000 in
theorem E_10_0 (Ls d : Nat) (z0 : Int) (w : AW) : Lm P0 (M0 Ls) d m_Str_isLatin1 0 [some (.inr (.inr z0))] [] w = (if 0 < z0 then (if (shv (M0 Ls) w (adr z0)).1 = 60 then (if (cv (M0 Ls) w (adr z0) 1) = 0 then Lm P0 (M0 Ls) d m_Str_isLatin1 18 [some (.inr (.inr z0))] [.inl 1] w else Lm P0 (M0 Ls) d m_Str_isLatin1 17 [some (.inr (.inr z0))] [] w) else none) else none) := by
  rw [Lm_unf P0 (M0 Ls) sp_10 9]
  rfl
set_option maxRecDepth 100000 in
theorem E_10_17 (Ls d : Nat) (x0 : Int) (w : AW) : Lm P0 (M0 Ls) d m_Str_isLatin1 17 [some (.inr (.inr x0))] [] w = Lm P0 (M0 Ls) d m_Str_isLatin1 18 [some (.inr (.inr x0))] [.inl 0] w := by
  rw [Lm_unf P0 (M0 Ls) sp_10 3]
  rfl
set_option maxRecDepth 100000 in
theorem E_10_18 (Ls d : Nat) (x0 y0 : Int) (w : AW) : Lm P0 (M0 Ls) d m_Str_isLatin1 18 [some (.inr (.inr x0))] [.inl y0] w = (if rok 3 y0 = true then some (some (.inl y0), w) else none) := by
  rw [Lm_unf P0 (M0 Ls) sp_10 2]
  rfl
def sp_11 : Nat → Bool := fun q => [0, 4, 15].contains q
set_option maxRecDepth 100000 in
theorem E_11_0 (Ls d : Nat) (z0 p1 : Int) (w : AW) : Lm P0 (M0 Ls) d m_Str_charAt 0 [some (.inr (.inr z0)), some (.inl p1)] [] w = (if 0 < z0 then (if (shv (M0 Ls) w (adr z0)).1 = Int.toNat 60 then Lk P0 (M0 Ls) d m_Str_isLatin1 [.inr (.inr z0)] w (fun r_ w_ => Lm P0 (M0 Ls) d m_Str_charAt 4 [some (.inr (.inr z0)), some (.inl p1)] (r_.toList ++ []) w_) else none) else none) := by
  rw [Lm_unf P0 (M0 Ls) sp_11 3]
  rfl
set_option maxRecDepth 100000 in
theorem E_11_4 (Ls d : Nat) (x0 x1 y0 : Int) (w : AW) : Lm P0 (M0 Ls) d m_Str_charAt 4 [some (.inr (.inr x0)), some (.inl x1)] [.inl y0] w = (if y0 = 0 then (if 0 < x0 then (if (shv (M0 Ls) w (adr x0)).1 = 60 then none else none) else none) else (if 0 < x0 then (if (shv (M0 Ls) w (adr x0)).1 = 60 then Lk P0 (M0 Ls) d m_Lat_charAt [.inr (.inr (cv (M0 Ls) w (adr x0) 0)), .inl x1] w (fun r_ w_ => Lm P0 (M0 Ls) d m_Str_charAt 15 [some (.inr (.inr x0)), some (.inl x1)] (r_.toList ++ []) w_) else none) else none)) := by
  rw [Lm_unf P0 (M0 Ls) sp_11 6]
  rfl
set_option maxRecDepth 100000 in
theorem E_11_15 (Ls d : Nat) (x0 x1 y0 : Int) (w : AW) : Lm P0 (M0 Ls) d m_Str_charAt 15 [some (.inr (.inr x0)), some (.inl x1)] [.inl y0] w = (if rok 4 y0 = true then some (some (.inl y0), w) else none) := by
  rw [Lm_unf P0 (M0 Ls) sp_11 2]
  rfl
def sp_12 : Nat → Bool := fun q => [0, 8].contains q
set_option maxRecDepth 100000 in
theorem E_12_0 (Ls d : Nat) (p1 p2 : Int) (w : AW) : Lm P0 (M0 Ls) d m_Str_checkIndex 0 [some (.inl p1), some (.inl p2)] [] w = Lk P0 (M0 Ls) d m_Pre_checkIndex [.inl p1, .inl p2, .inr (.inr (-1))] w (fun r_ w_ => Lm P0 (M0 Ls) d m_Str_checkIndex 8 [some (.inl p1), some (.inl p2)] (r_.toList ++ []) w_) := by
  rw [Lm_unf P0 (M0 Ls) sp_12 5]
  rfl
set_option maxRecDepth 100000 in
theorem E_12_8 (Ls d : Nat) (x0 x1 y0 : Int) (w : AW) : Lm P0 (M0 Ls) d m_Str_checkIndex 8 [some (.inl x0), some (.inl x1)] [.inl y0] w = some (none, w) := by
  rw [Lm_unf P0 (M0 Ls) sp_12 3]
  rfl
def sp_13 : Nat → Bool := fun q => [0, 6].contains q
set_option maxRecDepth 100000 in
theorem E_13_0 (Ls d : Nat) (z0 p1 : Int) (w : AW) : Lm P0 (M0 Ls) d m_Str_indexOf 0 [some (.inr (.inr z0)), some (.inl p1)] [] w = (if 0 < z0 then (if (shv (M0 Ls) w (adr z0)).1 = Int.toNat 60 then Lk P0 (M0 Ls) d m_Str_indexOf2 [.inr (.inr z0), .inl p1, .inl 0] w (fun r_ w_ => Lm P0 (M0 Ls) d m_Str_indexOf 6 [some (.inr (.inr z0)), some (.inl p1)] (r_.toList ++ []) w_) else none) else none) := by
  rw [Lm_unf P0 (M0 Ls) sp_13 5]
  rfl
set_option maxRecDepth 100000 in
theorem E_13_6 (Ls d : Nat) (x0 x1 y0 : Int) (w : AW) : Lm P0 (M0 Ls) d m_Str_indexOf 6 [some (.inr (.inr x0)), some (.inl x1)] [.inl y0] w = some (some (.inl y0), w) := by
  rw [Lm_unf P0 (M0 Ls) sp_13 2]
  rfl
def sp_14 : Nat → Bool := fun q => [0, 4, 17, 20].contains q
set_option maxRecDepth 100000 in
theorem E_14_0 (Ls d : Nat) (z0 p1 p2 : Int) (w : AW) : Lm P0 (M0 Ls) d m_Str_indexOf2 0 [some (.inr (.inr z0)), some (.inl p1), some (.inl p2)] [] w = (if 0 < z0 then (if (shv (M0 Ls) w (adr z0)).1 = Int.toNat 60 then Lk P0 (M0 Ls) d m_Str_isLatin1 [.inr (.inr z0)] w (fun r_ w_ => Lm P0 (M0 Ls) d m_Str_indexOf2 4 [some (.inr (.inr z0)), some (.inl p1), some (.inl p2)] (r_.toList ++ []) w_) else none) else none) := by
  rw [Lm_unf P0 (M0 Ls) sp_14 3]
  rfl
set_option maxRecDepth 100000 in
theorem E_14_4 (Ls d : Nat) (x0 x1 x2 y0 : Int) (w : AW) : Lm P0 (M0 Ls) d m_Str_indexOf2 4 [some (.inr (.inr x0)), some (.inl x1), some (.inl x2)] [.inl y0] w = (if y0 = 0 then (if 0 < x0 then (if (shv (M0 Ls) w (adr x0)).1 = 60 then (if 0 < x0 then (if (shv (M0 Ls) w (adr x0)).1 = Int.toNat 60 then Lk P0 (M0 Ls) d m_Str_length [.inr (.inr x0)] w (fun r_ w_ => none) else none) else none) else none) else none) else (if 0 < x0 then (if (shv (M0 Ls) w (adr x0)).1 = 60 then (if 0 < x0 then (if (shv (M0 Ls) w (adr x0)).1 = Int.toNat 60 then Lk P0 (M0 Ls) d m_Str_length [.inr (.inr x0)] w (fun r_ w_ => Lm P0 (M0 Ls) d m_Str_indexOf2 17 [some (.inr (.inr x0)), some (.inl x1), some (.inl x2)] (r_.toList ++ [.inl x2, .inl x1, .inr (.inr (cv (M0 Ls) w (adr x0) 0))]) w_) else none) else none) else none) else none)) := by
  rw [Lm_unf P0 (M0 Ls) sp_14 8]
  rfl
set_option maxRecDepth 100000 in
theorem E_14_17 (Ls d : Nat) (x0 x1 x2 y0 y1 y2 y3 : Int) (w : AW) : Lm P0 (M0 Ls) d m_Str_indexOf2 17 [some (.inr (.inr x0)), some (.inl x1), some (.inl x2)] [.inl y0, .inl y1, .inl y2, .inr (.inr y3)] w = Lk P0 (M0 Ls) d m_Lat_indexOf [.inr (.inr y3), .inl y2, .inl y1, .inl y0] w (fun r_ w_ => Lm P0 (M0 Ls) d m_Str_indexOf2 20 [some (.inr (.inr x0)), some (.inl x1), some (.inl x2)] (r_.toList ++ []) w_) := by
  rw [Lm_unf P0 (M0 Ls) sp_14 2]
  rfl
set_option maxRecDepth 100000 in
theorem E_14_20 (Ls d : Nat) (x0 x1 x2 y0 : Int) (w : AW) : Lm P0 (M0 Ls) d m_Str_indexOf2 20 [some (.inr (.inr x0)), some (.inl x1), some (.inl x2)] [.inl y0] w = some (some (.inl y0), w) := by
  rw [Lm_unf P0 (M0 Ls) sp_14 3]
  rfl
def sp_15 : Nat → Bool := fun q => [0, 6].contains q
set_option maxRecDepth 100000 in
theorem E_15_0 (Ls d : Nat) (p1 p2 : Int) (w : AW) : Lm P0 (M0 Ls) d m_Lat_charAt 0 [some (.inr (.inr p1)), some (.inl p2)] [] w = (if 0 < p1 then (if 100 ≤ (shv (M0 Ls) w (adr p1)).1 ∧ (shv (M0 Ls) w (adr p1)).1 ≤ 112 then Lk P0 (M0 Ls) d m_Str_checkIndex [.inl p2, .inl ((shv (M0 Ls) w (adr p1)).2 : Int)] w (fun r_ w_ => Lm P0 (M0 Ls) d m_Lat_charAt 6 [some (.inr (.inr p1)), some (.inl p2)] (r_.toList ++ []) w_) else none) else none) := by
  rw [Lm_unf P0 (M0 Ls) sp_15 5]
  rfl
set_option maxRecDepth 100000 in
theorem E_15_6 (Ls d : Nat) (x0 x1 : Int) (w : AW) : Lm P0 (M0 Ls) d m_Lat_charAt 6 [some (.inr (.inr x0)), some (.inl x1)] [] w = (arN (M0 Ls) w x0 102 103 112 none (fun a1 n1 => (if (0 : Int) ≤ x1 ∧ x1 < (n1 : Int) then (if rok 4 ((i32 (fun x y => x &&& y) (rd w a1 x1) 255) % 65536) = true then some (some (.inl ((i32 (fun x y => x &&& y) (rd w a1 x1) 255) % 65536)), w) else none) else none))) := by
  rw [Lm_unf P0 (M0 Ls) sp_15 8]
  rfl
def sp_16 : Nat → Bool := fun q => [0, 15, 16].contains q
set_option maxRecDepth 100000 in
theorem E_16_0 (Ls d : Nat) (p1 : Int) (w : AW) : Lm P0 (M0 Ls) d m_Lat_canEncode 0 [some (.inl p1)] [] w = (if p1 < 0 then Lm P0 (M0 Ls) d m_Lat_canEncode 15 [some (.inl p1)] [] w else (if 255 < p1 then Lm P0 (M0 Ls) d m_Lat_canEncode 15 [some (.inl p1)] [] w else Lm P0 (M0 Ls) d m_Lat_canEncode 16 [some (.inl p1)] [.inl 1] w)) := by
  rw [Lm_unf P0 (M0 Ls) sp_16 9]
  rfl
set_option maxRecDepth 100000 in
theorem E_16_15 (Ls d : Nat) (x0 : Int) (w : AW) : Lm P0 (M0 Ls) d m_Lat_canEncode 15 [some (.inl x0)] [] w = Lm P0 (M0 Ls) d m_Lat_canEncode 16 [some (.inl x0)] [.inl 0] w := by
  rw [Lm_unf P0 (M0 Ls) sp_16 3]
  rfl
set_option maxRecDepth 100000 in
theorem E_16_16 (Ls d : Nat) (x0 y0 : Int) (w : AW) : Lm P0 (M0 Ls) d m_Lat_canEncode 16 [some (.inl x0)] [.inl y0] w = (if rok 3 y0 = true then some (some (.inl y0), w) else none) := by
  rw [Lm_unf P0 (M0 Ls) sp_16 2]
  rfl
def sp_17 : Nat → Bool := fun q => [0, 4, 14, 21, 36].contains q
set_option maxRecDepth 100000 in
theorem E_17_0 (Ls d : Nat) (p1 p2 p3 p4 : Int) (w : AW) : Lm P0 (M0 Ls) d m_Lat_indexOf 0 [some (.inr (.inr p1)), some (.inl p2), some (.inl p3), some (.inl p4)] [] w = Lk P0 (M0 Ls) d m_Lat_canEncode [.inl p2] w (fun r_ w_ => Lm P0 (M0 Ls) d m_Lat_indexOf 4 [some (.inr (.inr p1)), some (.inl p2), some (.inl p3), some (.inl p4)] (r_.toList ++ []) w_) := by
  rw [Lm_unf P0 (M0 Ls) sp_17 3]
  rfl
set_option maxRecDepth 100000 in
theorem E_17_4 (Ls d : Nat) (x0 x1 x2 x3 y0 : Int) (w : AW) : Lm P0 (M0 Ls) d m_Lat_indexOf 4 [some (.inr (.inr x0)), some (.inl x1), some (.inl x2), some (.inl x3)] [.inl y0] w = (if y0 = 0 then some (some (.inl (-1)), w) else Lk P0 (M0 Ls) d m_Math_max [.inl x2, .inl 0] w (fun r_ w_ => Lm P0 (M0 Ls) d m_Lat_indexOf 14 [some (.inr (.inr x0)), some (.inl x1), some (.inl x2), some (.inl x3)] (r_.toList ++ []) w_)) := by
  rw [Lm_unf P0 (M0 Ls) sp_17 5]
  rfl
set_option maxRecDepth 100000 in
theorem E_17_14 (Ls d : Nat) (x0 x1 x2 x3 y0 : Int) (w : AW) : Lm P0 (M0 Ls) d m_Lat_indexOf 14 [some (.inr (.inr x0)), some (.inl x1), some (.inl x2), some (.inl x3)] [.inl y0] w = (if 0 < x0 then (if 100 ≤ (shv (M0 Ls) w (adr x0)).1 ∧ (shv (M0 Ls) w (adr x0)).1 ≤ 112 then Lk P0 (M0 Ls) d m_Math_min [.inl x3, .inl ((shv (M0 Ls) w (adr x0)).2 : Int)] w (fun r_ w_ => Lm P0 (M0 Ls) d m_Lat_indexOf 21 [some (.inr (.inr x0)), some (.inl x1), some (.inl y0), some (.inl x3)] (r_.toList ++ []) w_) else none) else none) := by
  rw [Lm_unf P0 (M0 Ls) sp_17 6]
  rfl
set_option maxRecDepth 100000 in
theorem E_17_21 (Ls d : Nat) (x0 x1 x2 x3 y0 : Int) (w : AW) : Lm P0 (M0 Ls) d m_Lat_indexOf 21 [some (.inr (.inr x0)), some (.inl x1), some (.inl x2), some (.inl x3)] [.inl y0] w = (if x2 < y0 then Lk P0 (M0 Ls) d m_Lat_indexOfChar [.inr (.inr x0), .inl x1, .inl x2, .inl y0] w (fun r_ w_ => Lm P0 (M0 Ls) d m_Lat_indexOf 36 [some (.inr (.inr x0)), some (.inl x1), some (.inl x2), some (.inl y0)] (r_.toList ++ []) w_) else some (some (.inl (-1)), w)) := by
  rw [Lm_unf P0 (M0 Ls) sp_17 10]
  rfl
set_option maxRecDepth 100000 in
theorem E_17_36 (Ls d : Nat) (x0 x1 x2 x3 y0 : Int) (w : AW) : Lm P0 (M0 Ls) d m_Lat_indexOf 36 [some (.inr (.inr x0)), some (.inl x1), some (.inl x2), some (.inl x3)] [.inl y0] w = some (some (.inl y0), w) := by
  rw [Lm_unf P0 (M0 Ls) sp_17 2]
  rfl
def sp_18 : Nat → Bool := fun q => [0, 7].contains q
set_option maxRecDepth 100000 in
theorem E_18_0 (Ls d : Nat) (p1 p2 p3 p4 : Int) (w : AW) : Lm P0 (M0 Ls) d m_Lat_indexOfChar 0 [some (.inr (.inr p1)), some (.inl p2), some (.inl p3), some (.inl p4), none, none] [] w = Lm P0 (M0 Ls) d m_Lat_indexOfChar 7 [some (.inr (.inr p1)), some (.inl p2), some (.inl p3), some (.inl p4), some (.inl (Int.bmod p2 256)), some (.inl p3)] [] w := by
  rw [Lm_unf P0 (M0 Ls) sp_18 7]
  rfl
set_option maxRecDepth 100000 in
theorem E_18_7 (Ls d : Nat) (x0 x1 x2 x3 x4 x5 : Int) (w : AW) : Lm P0 (M0 Ls) d m_Lat_indexOfChar 7 [some (.inr (.inr x0)), some (.inl x1), some (.inl x2), some (.inl x3), some (.inl x4), some (.inl x5)] [] w = (if x5 < x3 then (arN (M0 Ls) w x0 102 103 112 none (fun a1 n1 => (if (0 : Int) ≤ x5 ∧ x5 < (n1 : Int) then (if (rd w a1 x5) = x4 then some (some (.inl x5), w) else Lm P0 (M0 Ls) d m_Lat_indexOfChar 7 [some (.inr (.inr x0)), some (.inl x1), some (.inl x2), some (.inl x3), some (.inl x4), some (.inl (w32 (x5 + 1)))] [] w) else none))) else some (some (.inl (-1)), w)) := by
  rw [Lm_unf P0 (M0 Ls) sp_18 12]
  rfl
def sp_19 : Nat → Bool := fun q => [0, 9].contains q
set_option maxRecDepth 100000 in
theorem E_19_0 (Ls d : Nat) (p1 p2 p3 : Int) (w : AW) : Lm P0 (M0 Ls) d m_Pre_checkIndex 0 [some (.inl p1), some (.inl p2), some (.inr (.inr p3))] [] w = (if p1 < 0 then Lm P0 (M0 Ls) d m_Pre_checkIndex 9 [some (.inl p1), some (.inl p2), some (.inr (.inr p3))] [] w else (if p1 < p2 then some (some (.inl p1), w) else Lm P0 (M0 Ls) d m_Pre_checkIndex 9 [some (.inl p1), some (.inl p2), some (.inr (.inr p3))] [] w)) := by
  rw [Lm_unf P0 (M0 Ls) sp_19 8]
  rfl
set_option maxRecDepth 100000 in
theorem E_19_9 (Ls d : Nat) (x0 x1 x2 : Int) (w : AW) : Lm P0 (M0 Ls) d m_Pre_checkIndex 9 [some (.inl x0), some (.inl x1), some (.inr (.inr x2))] [] w = none := by
  rw [Lm_unf P0 (M0 Ls) sp_19 5]
  rfl
