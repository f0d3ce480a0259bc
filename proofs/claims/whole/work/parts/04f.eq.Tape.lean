def sp_58 : Nat → Bool := fun q => [0, 3, 38, 42, 43, 82].contains q
set_option maxRecDepth 100000 in
theorem E_58_0 (Ls d : Nat) (p1 : Int) (w : AW) : Lm P0 (M0 Ls) d m_Tape_put 0 [some (.inr (.inr 55)), some (.inr (.inl p1)), none, none, none, none] [] w = Lm P0 (M0 Ls) d m_Tape_put 3 [some (.inr (.inr 55)), some (.inr (.inl p1)), none, some (.inl 56), none, none] [] w := by
  rw [Lm_unf P0 (M0 Ls) sp_58 4]
  rfl
set_option maxRecDepth 100000 in
theorem E_58_3 (Ls d : Nat) (x1 x3 : Int) (u4 u5 : Option AV) (w : AW) : Lm P0 (M0 Ls) d m_Tape_put 3 [some (.inr (.inr 55)), some (.inr (.inl x1)), none, some (.inl x3), u4, u5] [] w = (if x3 < 0 then some (none, w) else (if (w32 (i64 (fun x y => x &&& y) ((Int64.ofInt x1 >>> ((Int32.ofInt x3).toInt64 &&& 63)).toInt) 255)) = 10 then Lm P0 (M0 Ls) d m_Tape_put 38 [some (.inr (.inr 55)), some (.inr (.inl x1)), none, some (.inl x3), some (.inl (w32 (i64 (fun x y => x &&& y) ((Int64.ofInt x1 >>> ((Int32.ofInt x3).toInt64 &&& 63)).toInt) 255))), u5] [] w else (if (w32 (i64 (fun x y => x &&& y) ((Int64.ofInt x1 >>> ((Int32.ofInt x3).toInt64 &&& 63)).toInt) 255)) < 32 then Lm P0 (M0 Ls) d m_Tape_put 42 [some (.inr (.inr 55)), some (.inr (.inl x1)), none, some (.inl x3), some (.inl (w32 (i64 (fun x y => x &&& y) ((Int64.ofInt x1 >>> ((Int32.ofInt x3).toInt64 &&& 63)).toInt) 255))), u5] [] w else (if 126 < (w32 (i64 (fun x y => x &&& y) ((Int64.ofInt x1 >>> ((Int32.ofInt x3).toInt64 &&& 63)).toInt) 255)) then Lm P0 (M0 Ls) d m_Tape_put 42 [some (.inr (.inr 55)), some (.inr (.inl x1)), none, some (.inl x3), some (.inl (w32 (i64 (fun x y => x &&& y) ((Int64.ofInt x1 >>> ((Int32.ofInt x3).toInt64 &&& 63)).toInt) 255))), u5] [] w else Lm P0 (M0 Ls) d m_Tape_put 38 [some (.inr (.inr 55)), some (.inr (.inl x1)), none, some (.inl x3), some (.inl (w32 (i64 (fun x y => x &&& y) ((Int64.ofInt x1 >>> ((Int32.ofInt x3).toInt64 &&& 63)).toInt) 255))), u5] [] w)))) := by
  rw [Lm_unf P0 (M0 Ls) sp_58 20]
  rfl
set_option maxRecDepth 100000 in
theorem E_58_38 (Ls d : Nat) (x1 x3 x4 : Int) (u5 : Option AV) (w : AW) : Lm P0 (M0 Ls) d m_Tape_put 38 [some (.inr (.inr 55)), some (.inr (.inl x1)), none, some (.inl x3), some (.inl x4), u5] [] w = Lm P0 (M0 Ls) d m_Tape_put 43 [some (.inr (.inr 55)), some (.inr (.inl x1)), none, some (.inl x3), some (.inl x4), u5] [.inl 1] w := by
  rw [Lm_unf P0 (M0 Ls) sp_58 4]
  rfl
set_option maxRecDepth 100000 in
theorem E_58_42 (Ls d : Nat) (x1 x3 x4 : Int) (u5 : Option AV) (w : AW) : Lm P0 (M0 Ls) d m_Tape_put 42 [some (.inr (.inr 55)), some (.inr (.inl x1)), none, some (.inl x3), some (.inl x4), u5] [] w = Lm P0 (M0 Ls) d m_Tape_put 43 [some (.inr (.inr 55)), some (.inr (.inl x1)), none, some (.inl x3), some (.inl x4), u5] [.inl 0] w := by
  rw [Lm_unf P0 (M0 Ls) sp_58 3]
  rfl
set_option maxRecDepth 100000 in
theorem E_58_43 (Ls d : Nat) (x1 x3 x4 y0 : Int) (u5 : Option AV) (w : AW) : Lm P0 (M0 Ls) d m_Tape_put 43 [some (.inr (.inr 55)), some (.inr (.inl x1)), none, some (.inl x3), some (.inl x4), u5] [.inl y0] w = (if y0 = 0 then Lm P0 (M0 Ls) d m_Tape_put 82 [some (.inr (.inr 55)), some (.inr (.inl x1)), none, some (.inl x3), some (.inl x4), some (.inl y0)] [] w else (if (rd w 54 1) < 1000 then (if 0 ≤ (rd w 54 1) ∧ (rd w 54 1) < 1000 then (if -128 ≤ (Int.bmod x4 256) ∧ (Int.bmod x4 256) < 128 then Lm P0 (M0 Ls) d m_Tape_put 82 [some (.inr (.inr 55)), some (.inr (.inl x1)), none, some (.inl x3), some (.inl x4), some (.inl y0)] [] (wC (wC w 55 (rd w 54 1) (Int.bmod x4 256)) 54 1 (w32 ((rd (wC w 55 (rd w 54 1) (Int.bmod x4 256)) 54 1) + 1))) else none) else none) else Lm P0 (M0 Ls) d m_Tape_put 82 [some (.inr (.inr 55)), some (.inr (.inl x1)), none, some (.inl x3), some (.inl x4), some (.inl y0)] [] w)) := by
  rw [Lm_unf P0 (M0 Ls) sp_58 22]
  rfl
set_option maxRecDepth 100000 in
theorem E_58_82 (Ls d : Nat) (x1 x3 x4 x5 : Int) (w : AW) : Lm P0 (M0 Ls) d m_Tape_put 82 [some (.inr (.inr 55)), some (.inr (.inl x1)), none, some (.inl x3), some (.inl x4), some (.inl x5)] [] w = Lm P0 (M0 Ls) d m_Tape_put 3 [some (.inr (.inr 55)), some (.inr (.inl x1)), none, some (.inl (w32 (x3 + (-8)))), some (.inl x4), some (.inl x5)] [] w := by
  rw [Lm_unf P0 (M0 Ls) sp_58 4]
  rfl
def sp_59 : Nat → Bool := fun q => [0, 14].contains q
set_option maxRecDepth 100000 in
theorem E_59_0 (Ls d : Nat) (w : AW) : Lm P0 (M0 Ls) d m_Tape_begin 0 [some (.inr (.inr 55))] [] w = Lk P0 (M0 Ls) d m_Tape_advance [.inr (.inr 55)] (wC (wC w 54 2 0) 54 6 0) (fun r_ w_ => Lm P0 (M0 Ls) d m_Tape_begin 14 [some (.inr (.inr 55))] (r_.toList ++ []) w_) := by
  rw [Lm_unf P0 (M0 Ls) sp_59 9]
  rfl
set_option maxRecDepth 100000 in
theorem E_59_14 (Ls d : Nat) (w : AW) : Lm P0 (M0 Ls) d m_Tape_begin 14 [some (.inr (.inr 55))] [] w = some (none, w) := by
  rw [Lm_unf P0 (M0 Ls) sp_59 2]
  rfl
def sp_60 : Nat → Bool := fun q => [0].contains q
set_option maxRecDepth 100000 in
theorem E_60_0 (Ls d : Nat) (w : AW) : Lm P0 (M0 Ls) d m_Tape_finish 0 [some (.inr (.inr 55))] [] w = some (some (.inl (rd (wC w 54 1 0) 54 2)), wC w 54 1 0) := by
  rw [Lm_unf P0 (M0 Ls) sp_60 7]
  rfl
def sp_61 : Nat → Bool := fun q => [0, 18, 19].contains q
set_option maxRecDepth 100000 in
theorem E_61_0 (Ls d : Nat) (w : AW) : Lm P0 (M0 Ls) d m_Tape_goesOn 0 [some (.inr (.inr 55))] [] w = (if (rd w 54 2) = 0 then (if (rd w 54 3) = 0 then Lm P0 (M0 Ls) d m_Tape_goesOn 18 [some (.inr (.inr 55))] [] w else Lm P0 (M0 Ls) d m_Tape_goesOn 19 [some (.inr (.inr 55))] [.inl 1] w) else Lm P0 (M0 Ls) d m_Tape_goesOn 18 [some (.inr (.inr 55))] [] w) := by
  rw [Lm_unf P0 (M0 Ls) sp_61 10]
  rfl
set_option maxRecDepth 100000 in
theorem E_61_18 (Ls d : Nat) (w : AW) : Lm P0 (M0 Ls) d m_Tape_goesOn 18 [some (.inr (.inr 55))] [] w = Lm P0 (M0 Ls) d m_Tape_goesOn 19 [some (.inr (.inr 55))] [.inl 0] w := by
  rw [Lm_unf P0 (M0 Ls) sp_61 3]
  rfl
set_option maxRecDepth 100000 in
theorem E_61_19 (Ls d : Nat) (y0 : Int) (w : AW) : Lm P0 (M0 Ls) d m_Tape_goesOn 19 [some (.inr (.inr 55))] [.inl y0] w = (if rok 3 y0 = true then some (some (.inl y0), w) else none) := by
  rw [Lm_unf P0 (M0 Ls) sp_61 2]
  rfl
def sp_62 : Nat → Bool := fun q => [0, 20].contains q
set_option maxRecDepth 100000 in
theorem E_62_0 (Ls d : Nat) (p1 : Int) (w : AW) : Lm P0 (M0 Ls) d m_Tape_wrong 0 [some (.inr (.inr 55)), some (.inl p1)] [] w = (if (rd w 54 2) = 0 then Lm P0 (M0 Ls) d m_Tape_wrong 20 [some (.inr (.inr 55)), some (.inl p1)] [] (wC w 54 2 (w32 (p1 + (w32 (16 * (rd w 54 5)))))) else Lm P0 (M0 Ls) d m_Tape_wrong 20 [some (.inr (.inr 55)), some (.inl p1)] [] w) := by
  rw [Lm_unf P0 (M0 Ls) sp_62 13]
  rfl
set_option maxRecDepth 100000 in
theorem E_62_20 (Ls d : Nat) (x1 : Int) (w : AW) : Lm P0 (M0 Ls) d m_Tape_wrong 20 [some (.inr (.inr 55)), some (.inl x1)] [] w = some (none, w) := by
  rw [Lm_unf P0 (M0 Ls) sp_62 2]
  rfl
def sp_63 : Nat → Bool := fun q => [0, 39, 52, 68, 77, 123, 138, 165, 173, 186].contains q
set_option maxRecDepth 100000 in
theorem E_63_0 (Ls d : Nat) (w : AW) : Lm P0 (M0 Ls) d m_Tape_advance 0 [some (.inr (.inr 55)), none, none] [] w = (if (rd w 54 6) < (rd w 54 1) then (if 0 ≤ (rd w 54 6) ∧ (rd w 54 6) < 1000 then (if (rd w 55 (rd w 54 6)) = 10 then Lm P0 (M0 Ls) d m_Tape_advance 39 [some (.inr (.inr 55)), none, none] [] w else (if 0 ≤ (rd w 54 6) ∧ (rd w 54 6) < 1000 then (if (rd w 55 (rd w 54 6)) = 32 then Lm P0 (M0 Ls) d m_Tape_advance 39 [some (.inr (.inr 55)), none, none] [] w else Lm P0 (M0 Ls) d m_Tape_advance 52 [some (.inr (.inr 55)), none, none] [] w) else none)) else none) else Lm P0 (M0 Ls) d m_Tape_advance 52 [some (.inr (.inr 55)), none, none] [] w) := by
  rw [Lm_unf P0 (M0 Ls) sp_63 21]
  rfl
set_option maxRecDepth 100000 in
theorem E_63_39 (Ls d : Nat) (w : AW) : Lm P0 (M0 Ls) d m_Tape_advance 39 [some (.inr (.inr 55)), none, none] [] w = Lm P0 (M0 Ls) d m_Tape_advance 0 [some (.inr (.inr 55)), none, none] [] (wC w 54 6 (w32 ((rd w 54 6) + 1))) := by
  rw [Lm_unf P0 (M0 Ls) sp_63 9]
  rfl
set_option maxRecDepth 100000 in
theorem E_63_52 (Ls d : Nat) (w : AW) : Lm P0 (M0 Ls) d m_Tape_advance 52 [some (.inr (.inr 55)), none, none] [] w = Lk P0 (M0 Ls) d m_Tape_run [.inr (.inr 55), .inl 97, .inl 122] (wC w 54 5 (rd w 54 6)) (fun r_ w_ => Lm P0 (M0 Ls) d m_Tape_advance 68 [some (.inr (.inr 55)), none, none] (r_.toList ++ []) w_) := by
  rw [Lm_unf P0 (M0 Ls) sp_63 9]
  rfl
set_option maxRecDepth 100000 in
theorem E_63_68 (Ls d : Nat) (y0 : Int) (w : AW) : Lm P0 (M0 Ls) d m_Tape_advance 68 [some (.inr (.inr 55)), none, none] [.inl y0] w = Lk P0 (M0 Ls) d m_Tape_run [.inr (.inr 55), .inl 48, .inl 57] w (fun r_ w_ => Lm P0 (M0 Ls) d m_Tape_advance 77 [some (.inr (.inr 55)), some (.inl y0), none] (r_.toList ++ []) w_) := by
  rw [Lm_unf P0 (M0 Ls) sp_63 6]
  rfl
set_option maxRecDepth 100000 in
theorem E_63_77 (Ls d : Nat) (x1 y0 : Int) (w : AW) : Lm P0 (M0 Ls) d m_Tape_advance 77 [some (.inr (.inr 55)), some (.inl x1), none] [.inl y0] w = (if (rd w 54 6) < (rd w 54 1) then (if 0 < x1 then (if 8 < x1 then Lm P0 (M0 Ls) d m_Tape_advance 123 [some (.inr (.inr 55)), some (.inl x1), some (.inl y0)] [.inl 4, .inr (.inr 55)] (wC w 54 6 (w32 ((rd w 54 6) + x1))) else Lm P0 (M0 Ls) d m_Tape_advance 123 [some (.inr (.inr 55)), some (.inl x1), some (.inl y0)] [.inl 1, .inr (.inr 55)] (wC w 54 6 (w32 ((rd w 54 6) + x1)))) else (if 0 < y0 then Lk P0 (M0 Ls) d m_Tape_takeNumber [.inr (.inr 55), .inl y0] w (fun r_ w_ => Lm P0 (M0 Ls) d m_Tape_advance 138 [some (.inr (.inr 55)), some (.inl x1), some (.inl y0)] (r_.toList ++ []) w_) else (if 0 ≤ (rd w 54 6) ∧ (rd w 54 6) < 1000 then Lk P0 (M0 Ls) d m_Str_indexOf [.inr (.inr 2), .inl ((rd (wC w 54 4 (rd w 55 (rd w 54 6))) 54 4) % 65536)] (wC w 54 4 (rd w 55 (rd w 54 6))) (fun r_ w_ => Lm P0 (M0 Ls) d m_Tape_advance 165 [some (.inr (.inr 55)), some (.inl x1), some (.inl y0)] (r_.toList ++ [.inr (.inr 55)]) w_) else none))) else Lm P0 (M0 Ls) d m_Tape_advance 186 [some (.inr (.inr 55)), some (.inl x1), some (.inl y0)] [] (wC w 54 3 0)) := by
  rw [Lm_unf P0 (M0 Ls) sp_63 24]
  rfl
set_option maxRecDepth 100000 in
theorem E_63_123 (Ls d : Nat) (x1 x2 y0 : Int) (w : AW) : Lm P0 (M0 Ls) d m_Tape_advance 123 [some (.inr (.inr 55)), some (.inl x1), some (.inl x2)] [.inl y0, .inr (.inr 55)] w = Lm P0 (M0 Ls) d m_Tape_advance 186 [some (.inr (.inr 55)), some (.inl x1), some (.inl x2)] [] (wC w 54 3 y0) := by
  rw [Lm_unf P0 (M0 Ls) sp_63 4]
  rfl
set_option maxRecDepth 100000 in
theorem E_63_138 (Ls d : Nat) (x1 x2 : Int) (w : AW) : Lm P0 (M0 Ls) d m_Tape_advance 138 [some (.inr (.inr 55)), some (.inl x1), some (.inl x2)] [] w = Lm P0 (M0 Ls) d m_Tape_advance 186 [some (.inr (.inr 55)), some (.inl x1), some (.inl x2)] [] w := by
  rw [Lm_unf P0 (M0 Ls) sp_63 3]
  rfl
set_option maxRecDepth 100000 in
theorem E_63_165 (Ls d : Nat) (x1 x2 y0 : Int) (w : AW) : Lm P0 (M0 Ls) d m_Tape_advance 165 [some (.inr (.inr 55)), some (.inl x1), some (.inl x2)] [.inl y0, .inr (.inr 55)] w = (if y0 < 0 then Lm P0 (M0 Ls) d m_Tape_advance 173 [some (.inr (.inr 55)), some (.inl x1), some (.inl x2)] [.inl 4, .inr (.inr 55)] w else Lm P0 (M0 Ls) d m_Tape_advance 173 [some (.inr (.inr 55)), some (.inl x1), some (.inl x2)] [.inl 3, .inr (.inr 55)] w) := by
  rw [Lm_unf P0 (M0 Ls) sp_63 5]
  rfl
set_option maxRecDepth 100000 in
theorem E_63_173 (Ls d : Nat) (x1 x2 y0 : Int) (w : AW) : Lm P0 (M0 Ls) d m_Tape_advance 173 [some (.inr (.inr 55)), some (.inl x1), some (.inl x2)] [.inl y0, .inr (.inr 55)] w = Lm P0 (M0 Ls) d m_Tape_advance 186 [some (.inr (.inr 55)), some (.inl x1), some (.inl x2)] [] (wC (wC w 54 3 y0) 54 6 (w32 ((rd (wC w 54 3 y0) 54 6) + 1))) := by
  rw [Lm_unf P0 (M0 Ls) sp_63 9]
  rfl
set_option maxRecDepth 100000 in
theorem E_63_186 (Ls d : Nat) (x1 x2 : Int) (w : AW) : Lm P0 (M0 Ls) d m_Tape_advance 186 [some (.inr (.inr 55)), some (.inl x1), some (.inl x2)] [] w = some (none, w) := by
  rw [Lm_unf P0 (M0 Ls) sp_63 2]
  rfl
def sp_64 : Nat → Bool := fun q => [0, 5, 39].contains q
set_option maxRecDepth 100000 in
theorem E_64_0 (Ls d : Nat) (p1 p2 : Int) (w : AW) : Lm P0 (M0 Ls) d m_Tape_run 0 [some (.inr (.inr 55)), some (.inl p1), some (.inl p2), none] [] w = Lm P0 (M0 Ls) d m_Tape_run 5 [some (.inr (.inr 55)), some (.inl p1), some (.inl p2), some (.inl (rd w 54 6))] [] w := by
  rw [Lm_unf P0 (M0 Ls) sp_64 5]
  rfl
set_option maxRecDepth 100000 in
theorem E_64_5 (Ls d : Nat) (x1 x2 x3 : Int) (w : AW) : Lm P0 (M0 Ls) d m_Tape_run 5 [some (.inr (.inr 55)), some (.inl x1), some (.inl x2), some (.inl x3)] [] w = (if x3 < (rd w 54 1) then (if 0 ≤ x3 ∧ x3 < 1000 then (if (rd w 55 x3) < x1 then Lm P0 (M0 Ls) d m_Tape_run 39 [some (.inr (.inr 55)), some (.inl x1), some (.inl x2), some (.inl x3)] [] w else (if 0 ≤ x3 ∧ x3 < 1000 then (if x2 < (rd w 55 x3) then Lm P0 (M0 Ls) d m_Tape_run 39 [some (.inr (.inr 55)), some (.inl x1), some (.inl x2), some (.inl x3)] [] w else Lm P0 (M0 Ls) d m_Tape_run 5 [some (.inr (.inr 55)), some (.inl x1), some (.inl x2), some (.inl (w32 (x3 + 1)))] [] w) else none)) else none) else Lm P0 (M0 Ls) d m_Tape_run 39 [some (.inr (.inr 55)), some (.inl x1), some (.inl x2), some (.inl x3)] [] w) := by
  rw [Lm_unf P0 (M0 Ls) sp_64 20]
  rfl
set_option maxRecDepth 100000 in
theorem E_64_39 (Ls d : Nat) (x1 x2 x3 : Int) (w : AW) : Lm P0 (M0 Ls) d m_Tape_run 39 [some (.inr (.inr 55)), some (.inl x1), some (.inl x2), some (.inl x3)] [] w = some (some (.inl (w32 (x3 - (rd w 54 6)))), w) := by
  rw [Lm_unf P0 (M0 Ls) sp_64 6]
  rfl
def sp_65 : Nat → Bool := fun q => [0, 11, 21, 63].contains q
set_option maxRecDepth 100000 in
theorem E_65_0 (Ls d : Nat) (p1 : Int) (w : AW) : Lm P0 (M0 Ls) d m_Tape_takeNumber 0 [some (.inr (.inr 55)), some (.inl p1), none] [] w = (if 4 < p1 then Lm P0 (M0 Ls) d m_Tape_takeNumber 11 [some (.inr (.inr 55)), some (.inl p1), none] [.inl 4, .inr (.inr 55)] w else Lm P0 (M0 Ls) d m_Tape_takeNumber 11 [some (.inr (.inr 55)), some (.inl p1), none] [.inl 2, .inr (.inr 55)] w) := by
  rw [Lm_unf P0 (M0 Ls) sp_65 8]
  rfl
set_option maxRecDepth 100000 in
theorem E_65_11 (Ls d : Nat) (x1 y0 : Int) (w : AW) : Lm P0 (M0 Ls) d m_Tape_takeNumber 11 [some (.inr (.inr 55)), some (.inl x1), none] [.inl y0, .inr (.inr 55)] w = Lm P0 (M0 Ls) d m_Tape_takeNumber 21 [some (.inr (.inr 55)), some (.inl x1), some (.inl 0)] [] (wC (wC w 54 3 y0) 54 4 0) := by
  rw [Lm_unf P0 (M0 Ls) sp_65 8]
  rfl
set_option maxRecDepth 100000 in
theorem E_65_21 (Ls d : Nat) (x1 x2 : Int) (w : AW) : Lm P0 (M0 Ls) d m_Tape_takeNumber 21 [some (.inr (.inr 55)), some (.inl x1), some (.inl x2)] [] w = (if x2 < x1 then (if x2 < 4 then (if 0 ≤ (w32 ((rd w 54 6) + x2)) ∧ (w32 ((rd w 54 6) + x2)) < 1000 then Lm P0 (M0 Ls) d m_Tape_takeNumber 21 [some (.inr (.inr 55)), some (.inl x1), some (.inl (w32 (x2 + 1)))] [] (wC w 54 4 (w32 ((w32 ((w32 (10 * (rd w 54 4))) + (rd w 55 (w32 ((rd w 54 6) + x2))))) - 48))) else none) else Lm P0 (M0 Ls) d m_Tape_takeNumber 63 [some (.inr (.inr 55)), some (.inl x1), some (.inl x2)] [] w) else Lm P0 (M0 Ls) d m_Tape_takeNumber 63 [some (.inr (.inr 55)), some (.inl x1), some (.inl x2)] [] w) := by
  rw [Lm_unf P0 (M0 Ls) sp_65 26]
  rfl
set_option maxRecDepth 100000 in
theorem E_65_63 (Ls d : Nat) (x1 x2 : Int) (w : AW) : Lm P0 (M0 Ls) d m_Tape_takeNumber 63 [some (.inr (.inr 55)), some (.inl x1), some (.inl x2)] [] w = some (none, wC w 54 6 (w32 ((rd w 54 6) + x1))) := by
  rw [Lm_unf P0 (M0 Ls) sp_65 8]
  rfl
def sp_66 : Nat → Bool := fun q => [0, 4, 36, 40, 61].contains q
set_option maxRecDepth 100000 in
theorem E_66_0 (Ls d : Nat) (p1 : Int) (w : AW) : Lm P0 (M0 Ls) d m_Tape_isWord 0 [some (.inr (.inr 55)), some (.inr (.inr p1)), none, none] [] w = (if 0 < p1 then (if (shv (M0 Ls) w (adr p1)).1 = Int.toNat 60 then Lk P0 (M0 Ls) d m_Str_length [.inr (.inr p1)] w (fun r_ w_ => Lm P0 (M0 Ls) d m_Tape_isWord 4 [some (.inr (.inr 55)), some (.inr (.inr p1)), none, none] (r_.toList ++ []) w_) else none) else none) := by
  rw [Lm_unf P0 (M0 Ls) sp_66 3]
  rfl
set_option maxRecDepth 100000 in
theorem E_66_4 (Ls d : Nat) (x1 y0 : Int) (w : AW) : Lm P0 (M0 Ls) d m_Tape_isWord 4 [some (.inr (.inr 55)), some (.inr (.inr x1)), none, none] [.inl y0] w = (if (rd w 54 3) = 1 then (if (w32 ((rd w 54 6) - (rd w 54 5))) = y0 then (if 1000 < (rd w 54 6) then Lm P0 (M0 Ls) d m_Tape_isWord 36 [some (.inr (.inr 55)), some (.inr (.inr x1)), some (.inl y0), none] [] w else Lm P0 (M0 Ls) d m_Tape_isWord 40 [some (.inr (.inr 55)), some (.inr (.inr x1)), some (.inl y0), some (.inl 0)] [] w) else Lm P0 (M0 Ls) d m_Tape_isWord 36 [some (.inr (.inr 55)), some (.inr (.inr x1)), some (.inl y0), none] [] w) else Lm P0 (M0 Ls) d m_Tape_isWord 36 [some (.inr (.inr 55)), some (.inr (.inr x1)), some (.inl y0), none] [] w) := by
  rw [Lm_unf P0 (M0 Ls) sp_66 20]
  rfl
set_option maxRecDepth 100000 in
theorem E_66_36 (Ls d : Nat) (x1 x2 : Int) (w : AW) : Lm P0 (M0 Ls) d m_Tape_isWord 36 [some (.inr (.inr 55)), some (.inr (.inr x1)), some (.inl x2), none] [] w = some (some (.inl 0), w) := by
  rw [Lm_unf P0 (M0 Ls) sp_66 3]
  rfl
set_option maxRecDepth 100000 in
theorem E_66_40 (Ls d : Nat) (x1 x2 x3 : Int) (w : AW) : Lm P0 (M0 Ls) d m_Tape_isWord 40 [some (.inr (.inr 55)), some (.inr (.inr x1)), some (.inl x2), some (.inl x3)] [] w = (if x3 < x2 then (if 0 ≤ (w32 ((rd w 54 5) + x3)) ∧ (w32 ((rd w 54 5) + x3)) < 1000 then (if 0 < x1 then (if (shv (M0 Ls) w (adr x1)).1 = Int.toNat 60 then Lk P0 (M0 Ls) d m_Str_charAt [.inr (.inr x1), .inl x3] w (fun r_ w_ => Lm P0 (M0 Ls) d m_Tape_isWord 61 [some (.inr (.inr 55)), some (.inr (.inr x1)), some (.inl x2), some (.inl x3)] (r_.toList ++ [.inl (rd w 55 (w32 ((rd w 54 5) + x3)))]) w_) else none) else none) else none) else some (some (.inl 1), w)) := by
  rw [Lm_unf P0 (M0 Ls) sp_66 14]
  rfl
set_option maxRecDepth 100000 in
theorem E_66_61 (Ls d : Nat) (x1 x2 x3 y0 y1 : Int) (w : AW) : Lm P0 (M0 Ls) d m_Tape_isWord 61 [some (.inr (.inr 55)), some (.inr (.inr x1)), some (.inl x2), some (.inl x3)] [.inl y0, .inl y1] w = (if y1 = y0 then Lm P0 (M0 Ls) d m_Tape_isWord 40 [some (.inr (.inr 55)), some (.inr (.inr x1)), some (.inl x2), some (.inl (w32 (x3 + 1)))] [] w else some (some (.inl 0), w)) := by
  rw [Lm_unf P0 (M0 Ls) sp_66 5]
  rfl
def sp_67 : Nat → Bool := fun q => [0, 20, 21].contains q
set_option maxRecDepth 100000 in
theorem E_67_0 (Ls d : Nat) (p1 : Int) (w : AW) : Lm P0 (M0 Ls) d m_Tape_isSign 0 [some (.inr (.inr 55)), some (.inl p1)] [] w = (if (rd w 54 3) = 3 then (if (rd w 54 4) = p1 then Lm P0 (M0 Ls) d m_Tape_isSign 21 [some (.inr (.inr 55)), some (.inl p1)] [.inl 1] w else Lm P0 (M0 Ls) d m_Tape_isSign 20 [some (.inr (.inr 55)), some (.inl p1)] [] w) else Lm P0 (M0 Ls) d m_Tape_isSign 20 [some (.inr (.inr 55)), some (.inl p1)] [] w) := by
  rw [Lm_unf P0 (M0 Ls) sp_67 12]
  rfl
set_option maxRecDepth 100000 in
theorem E_67_20 (Ls d : Nat) (x1 : Int) (w : AW) : Lm P0 (M0 Ls) d m_Tape_isSign 20 [some (.inr (.inr 55)), some (.inl x1)] [] w = Lm P0 (M0 Ls) d m_Tape_isSign 21 [some (.inr (.inr 55)), some (.inl x1)] [.inl 0] w := by
  rw [Lm_unf P0 (M0 Ls) sp_67 3]
  rfl
set_option maxRecDepth 100000 in
theorem E_67_21 (Ls d : Nat) (x1 y0 : Int) (w : AW) : Lm P0 (M0 Ls) d m_Tape_isSign 21 [some (.inr (.inr 55)), some (.inl x1)] [.inl y0] w = (if rok 3 y0 = true then some (some (.inl y0), w) else none) := by
  rw [Lm_unf P0 (M0 Ls) sp_67 2]
  rfl
def sp_68 : Nat → Bool := fun q => [0, 12, 19, 20, 29].contains q
set_option maxRecDepth 100000 in
theorem E_68_0 (Ls d : Nat) (p1 : Int) (w : AW) : Lm P0 (M0 Ls) d m_Tape_tookWord 0 [some (.inr (.inr 55)), some (.inr (.inr p1)), none] [] w = (if (rd w 54 2) = 0 then Lk P0 (M0 Ls) d m_Tape_isWord [.inr (.inr 55), .inr (.inr p1)] w (fun r_ w_ => Lm P0 (M0 Ls) d m_Tape_tookWord 12 [some (.inr (.inr 55)), some (.inr (.inr p1)), none] (r_.toList ++ []) w_) else Lm P0 (M0 Ls) d m_Tape_tookWord 19 [some (.inr (.inr 55)), some (.inr (.inr p1)), none] [] w) := by
  rw [Lm_unf P0 (M0 Ls) sp_68 7]
  rfl
set_option maxRecDepth 100000 in
theorem E_68_12 (Ls d : Nat) (x1 y0 : Int) (w : AW) : Lm P0 (M0 Ls) d m_Tape_tookWord 12 [some (.inr (.inr 55)), some (.inr (.inr x1)), none] [.inl y0] w = (if y0 = 0 then Lm P0 (M0 Ls) d m_Tape_tookWord 19 [some (.inr (.inr 55)), some (.inr (.inr x1)), none] [] w else Lm P0 (M0 Ls) d m_Tape_tookWord 20 [some (.inr (.inr 55)), some (.inr (.inr x1)), none] [.inl 1] w) := by
  rw [Lm_unf P0 (M0 Ls) sp_68 5]
  rfl
set_option maxRecDepth 100000 in
theorem E_68_19 (Ls d : Nat) (x1 : Int) (w : AW) : Lm P0 (M0 Ls) d m_Tape_tookWord 19 [some (.inr (.inr 55)), some (.inr (.inr x1)), none] [] w = Lm P0 (M0 Ls) d m_Tape_tookWord 20 [some (.inr (.inr 55)), some (.inr (.inr x1)), none] [.inl 0] w := by
  rw [Lm_unf P0 (M0 Ls) sp_68 3]
  rfl
set_option maxRecDepth 100000 in
theorem E_68_20 (Ls d : Nat) (x1 y0 : Int) (w : AW) : Lm P0 (M0 Ls) d m_Tape_tookWord 20 [some (.inr (.inr 55)), some (.inr (.inr x1)), none] [.inl y0] w = (if y0 = 0 then Lm P0 (M0 Ls) d m_Tape_tookWord 29 [some (.inr (.inr 55)), some (.inr (.inr x1)), some (.inl y0)] [] w else Lk P0 (M0 Ls) d m_Tape_advance [.inr (.inr 55)] w (fun r_ w_ => Lm P0 (M0 Ls) d m_Tape_tookWord 29 [some (.inr (.inr 55)), some (.inr (.inr x1)), some (.inl y0)] (r_.toList ++ []) w_)) := by
  rw [Lm_unf P0 (M0 Ls) sp_68 6]
  rfl
set_option maxRecDepth 100000 in
theorem E_68_29 (Ls d : Nat) (x1 x2 : Int) (w : AW) : Lm P0 (M0 Ls) d m_Tape_tookWord 29 [some (.inr (.inr 55)), some (.inr (.inr x1)), some (.inl x2)] [] w = (if rok 3 x2 = true then some (some (.inl x2), w) else none) := by
  rw [Lm_unf P0 (M0 Ls) sp_68 3]
  rfl
def sp_69 : Nat → Bool := fun q => [0, 12, 19, 22, 27].contains q
set_option maxRecDepth 100000 in
theorem E_69_0 (Ls d : Nat) (p1 : Int) (w : AW) : Lm P0 (M0 Ls) d m_Tape_needWord 0 [some (.inr (.inr 55)), some (.inr (.inr p1))] [] w = (if (rd w 54 2) = 0 then Lk P0 (M0 Ls) d m_Tape_isWord [.inr (.inr 55), .inr (.inr p1)] w (fun r_ w_ => Lm P0 (M0 Ls) d m_Tape_needWord 12 [some (.inr (.inr 55)), some (.inr (.inr p1))] (r_.toList ++ []) w_) else Lm P0 (M0 Ls) d m_Tape_needWord 22 [some (.inr (.inr 55)), some (.inr (.inr p1))] [] w) := by
  rw [Lm_unf P0 (M0 Ls) sp_69 7]
  rfl
set_option maxRecDepth 100000 in
theorem E_69_12 (Ls d : Nat) (x1 y0 : Int) (w : AW) : Lm P0 (M0 Ls) d m_Tape_needWord 12 [some (.inr (.inr 55)), some (.inr (.inr x1))] [.inl y0] w = (if y0 = 0 then Lm P0 (M0 Ls) d m_Tape_needWord 22 [some (.inr (.inr 55)), some (.inr (.inr x1))] [] w else Lk P0 (M0 Ls) d m_Tape_advance [.inr (.inr 55)] w (fun r_ w_ => Lm P0 (M0 Ls) d m_Tape_needWord 19 [some (.inr (.inr 55)), some (.inr (.inr x1))] (r_.toList ++ []) w_)) := by
  rw [Lm_unf P0 (M0 Ls) sp_69 4]
  rfl
set_option maxRecDepth 100000 in
theorem E_69_19 (Ls d : Nat) (x1 : Int) (w : AW) : Lm P0 (M0 Ls) d m_Tape_needWord 19 [some (.inr (.inr 55)), some (.inr (.inr x1))] [] w = Lm P0 (M0 Ls) d m_Tape_needWord 27 [some (.inr (.inr 55)), some (.inr (.inr x1))] [] w := by
  rw [Lm_unf P0 (M0 Ls) sp_69 3]
  rfl
set_option maxRecDepth 100000 in
theorem E_69_22 (Ls d : Nat) (x1 : Int) (w : AW) : Lm P0 (M0 Ls) d m_Tape_needWord 22 [some (.inr (.inr 55)), some (.inr (.inr x1))] [] w = Lk P0 (M0 Ls) d m_Tape_wrong [.inr (.inr 55), .inl 1] w (fun r_ w_ => Lm P0 (M0 Ls) d m_Tape_needWord 27 [some (.inr (.inr 55)), some (.inr (.inr x1))] (r_.toList ++ []) w_) := by
  rw [Lm_unf P0 (M0 Ls) sp_69 4]
  rfl
set_option maxRecDepth 100000 in
theorem E_69_27 (Ls d : Nat) (x1 : Int) (w : AW) : Lm P0 (M0 Ls) d m_Tape_needWord 27 [some (.inr (.inr 55)), some (.inr (.inr x1))] [] w = some (none, w) := by
  rw [Lm_unf P0 (M0 Ls) sp_69 2]
  rfl
def sp_70 : Nat → Bool := fun q => [0, 12, 19, 22, 27].contains q
set_option maxRecDepth 100000 in
theorem E_70_0 (Ls d : Nat) (p1 : Int) (w : AW) : Lm P0 (M0 Ls) d m_Tape_needSign 0 [some (.inr (.inr 55)), some (.inl p1)] [] w = (if (rd w 54 2) = 0 then Lk P0 (M0 Ls) d m_Tape_isSign [.inr (.inr 55), .inl p1] w (fun r_ w_ => Lm P0 (M0 Ls) d m_Tape_needSign 12 [some (.inr (.inr 55)), some (.inl p1)] (r_.toList ++ []) w_) else Lm P0 (M0 Ls) d m_Tape_needSign 22 [some (.inr (.inr 55)), some (.inl p1)] [] w) := by
  rw [Lm_unf P0 (M0 Ls) sp_70 7]
  rfl
set_option maxRecDepth 100000 in
theorem E_70_12 (Ls d : Nat) (x1 y0 : Int) (w : AW) : Lm P0 (M0 Ls) d m_Tape_needSign 12 [some (.inr (.inr 55)), some (.inl x1)] [.inl y0] w = (if y0 = 0 then Lm P0 (M0 Ls) d m_Tape_needSign 22 [some (.inr (.inr 55)), some (.inl x1)] [] w else Lk P0 (M0 Ls) d m_Tape_advance [.inr (.inr 55)] w (fun r_ w_ => Lm P0 (M0 Ls) d m_Tape_needSign 19 [some (.inr (.inr 55)), some (.inl x1)] (r_.toList ++ []) w_)) := by
  rw [Lm_unf P0 (M0 Ls) sp_70 4]
  rfl
set_option maxRecDepth 100000 in
theorem E_70_19 (Ls d : Nat) (x1 : Int) (w : AW) : Lm P0 (M0 Ls) d m_Tape_needSign 19 [some (.inr (.inr 55)), some (.inl x1)] [] w = Lm P0 (M0 Ls) d m_Tape_needSign 27 [some (.inr (.inr 55)), some (.inl x1)] [] w := by
  rw [Lm_unf P0 (M0 Ls) sp_70 3]
  rfl
set_option maxRecDepth 100000 in
theorem E_70_22 (Ls d : Nat) (x1 : Int) (w : AW) : Lm P0 (M0 Ls) d m_Tape_needSign 22 [some (.inr (.inr 55)), some (.inl x1)] [] w = Lk P0 (M0 Ls) d m_Tape_wrong [.inr (.inr 55), .inl 1] w (fun r_ w_ => Lm P0 (M0 Ls) d m_Tape_needSign 27 [some (.inr (.inr 55)), some (.inl x1)] (r_.toList ++ []) w_) := by
  rw [Lm_unf P0 (M0 Ls) sp_70 4]
  rfl
set_option maxRecDepth 100000 in
theorem E_70_27 (Ls d : Nat) (x1 : Int) (w : AW) : Lm P0 (M0 Ls) d m_Tape_needSign 27 [some (.inr (.inr 55)), some (.inl x1)] [] w = some (none, w) := by
  rw [Lm_unf P0 (M0 Ls) sp_70 2]
  rfl
def sp_71 : Nat → Bool := fun q => [0, 15, 20, 38, 43, 54].contains q
set_option maxRecDepth 100000 in
theorem E_71_0 (Ls d : Nat) (p1 p2 : Int) (w : AW) : Lm P0 (M0 Ls) d m_Tape_needNumber 0 [some (.inr (.inr 55)), some (.inl p1), some (.inl p2), none] [] w = (if (rd w 54 2) = 0 then (if (rd w 54 3) = 2 then (if (rd w 54 4) < p1 then Lm P0 (M0 Ls) d m_Tape_needNumber 38 [some (.inr (.inr 55)), some (.inl p1), some (.inl p2), none] [] w else (if p2 < (rd w 54 4) then Lm P0 (M0 Ls) d m_Tape_needNumber 38 [some (.inr (.inr 55)), some (.inl p1), some (.inl p2), none] [] w else Lk P0 (M0 Ls) d m_Tape_advance [.inr (.inr 55)] w (fun r_ w_ => Lm P0 (M0 Ls) d m_Tape_needNumber 54 [some (.inr (.inr 55)), some (.inl p1), some (.inl p2), some (.inl (rd w 54 4))] (r_.toList ++ []) w_))) else Lm P0 (M0 Ls) d m_Tape_needNumber 15 [some (.inr (.inr 55)), some (.inl p1), some (.inl p2), none] [] w) else Lm P0 (M0 Ls) d m_Tape_needNumber 15 [some (.inr (.inr 55)), some (.inl p1), some (.inl p2), none] [] w) := by
  rw [Lm_unf P0 (M0 Ls) sp_71 21]
  rfl
set_option maxRecDepth 100000 in
theorem E_71_15 (Ls d : Nat) (x1 x2 : Int) (w : AW) : Lm P0 (M0 Ls) d m_Tape_needNumber 15 [some (.inr (.inr 55)), some (.inl x1), some (.inl x2), none] [] w = Lk P0 (M0 Ls) d m_Tape_wrong [.inr (.inr 55), .inl 1] w (fun r_ w_ => Lm P0 (M0 Ls) d m_Tape_needNumber 20 [some (.inr (.inr 55)), some (.inl x1), some (.inl x2), none] (r_.toList ++ []) w_) := by
  rw [Lm_unf P0 (M0 Ls) sp_71 4]
  rfl
set_option maxRecDepth 100000 in
theorem E_71_20 (Ls d : Nat) (x1 x2 : Int) (w : AW) : Lm P0 (M0 Ls) d m_Tape_needNumber 20 [some (.inr (.inr 55)), some (.inl x1), some (.inl x2), none] [] w = some (some (.inl x1), w) := by
  rw [Lm_unf P0 (M0 Ls) sp_71 3]
  rfl
set_option maxRecDepth 100000 in
theorem E_71_38 (Ls d : Nat) (x1 x2 : Int) (w : AW) : Lm P0 (M0 Ls) d m_Tape_needNumber 38 [some (.inr (.inr 55)), some (.inl x1), some (.inl x2), none] [] w = Lk P0 (M0 Ls) d m_Tape_wrong [.inr (.inr 55), .inl 4] w (fun r_ w_ => Lm P0 (M0 Ls) d m_Tape_needNumber 43 [some (.inr (.inr 55)), some (.inl x1), some (.inl x2), none] (r_.toList ++ []) w_) := by
  rw [Lm_unf P0 (M0 Ls) sp_71 4]
  rfl
set_option maxRecDepth 100000 in
theorem E_71_43 (Ls d : Nat) (x1 x2 : Int) (w : AW) : Lm P0 (M0 Ls) d m_Tape_needNumber 43 [some (.inr (.inr 55)), some (.inl x1), some (.inl x2), none] [] w = some (some (.inl x1), w) := by
  rw [Lm_unf P0 (M0 Ls) sp_71 3]
  rfl
set_option maxRecDepth 100000 in
theorem E_71_54 (Ls d : Nat) (x1 x2 x3 : Int) (w : AW) : Lm P0 (M0 Ls) d m_Tape_needNumber 54 [some (.inr (.inr 55)), some (.inl x1), some (.inl x2), some (.inl x3)] [] w = some (some (.inl x3), w) := by
  rw [Lm_unf P0 (M0 Ls) sp_71 3]
  rfl
