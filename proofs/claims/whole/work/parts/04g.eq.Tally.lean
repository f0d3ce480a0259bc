def sp_144 : Nat → Bool := fun q => [0].contains q
set_option maxRecDepth 100000 in
theorem E_144_0 (Ls d : Nat) (w : AW) : Lm P0 (M0 Ls) d m_Tally_forget 0 [some (.inr (.inr 97))] [] w = some (none, wC w 96 5 (-1)) := by
  rw [Lm_unf P0 (M0 Ls) sp_144 5]
  rfl
def sp_145 : Nat → Bool := fun q => [0, 12, 14, 32, 38, 59, 92].contains q
set_option maxRecDepth 100000 in
theorem E_145_0 (Ls d : Nat) (p1 p2 : Int) (w : AW) : Lm P0 (M0 Ls) d m_Tally_nineDigits 0 [some (.inr (.inr 97)), some (.inl p1), some (.inl p2), none] [] w = (if (rd w 96 5) = (-1) then Lk P0 (M0 Ls) d m_Tally_begin [.inr (.inr 97)] w (fun r_ w_ => Lm P0 (M0 Ls) d m_Tally_nineDigits 12 [some (.inr (.inr 97)), some (.inl p1), some (.inl p2), none] (r_.toList ++ []) w_) else Lm P0 (M0 Ls) d m_Tally_nineDigits 12 [some (.inr (.inr 97)), some (.inl p1), some (.inl p2), none] [] w) := by
  rw [Lm_unf P0 (M0 Ls) sp_145 7]
  rfl
set_option maxRecDepth 100000 in
theorem E_145_12 (Ls d : Nat) (x1 x2 : Int) (w : AW) : Lm P0 (M0 Ls) d m_Tally_nineDigits 12 [some (.inr (.inr 97)), some (.inl x1), some (.inl x2), none] [] w = Lm P0 (M0 Ls) d m_Tally_nineDigits 14 [some (.inr (.inr 97)), some (.inl x1), some (.inl x2), some (.inl 0)] [] w := by
  rw [Lm_unf P0 (M0 Ls) sp_145 4]
  rfl
set_option maxRecDepth 100000 in
theorem E_145_14 (Ls d : Nat) (x1 x2 x3 : Int) (w : AW) : Lm P0 (M0 Ls) d m_Tally_nineDigits 14 [some (.inr (.inr 97)), some (.inl x1), some (.inl x2), some (.inl x3)] [] w = (if x3 < 60 then (if (rd w 96 5) < x1 then Lk P0 (M0 Ls) d m_Tally_goOn [.inr (.inr 97)] w (fun r_ w_ => Lm P0 (M0 Ls) d m_Tally_nineDigits 32 [some (.inr (.inr 97)), some (.inl x1), some (.inl x2), some (.inl x3)] (r_.toList ++ []) w_) else Lm P0 (M0 Ls) d m_Tally_nineDigits 38 [some (.inr (.inr 97)), some (.inl x1), some (.inl x2), some (.inl x3)] [] w) else Lm P0 (M0 Ls) d m_Tally_nineDigits 38 [some (.inr (.inr 97)), some (.inl x1), some (.inl x2), some (.inl x3)] [] w) := by
  rw [Lm_unf P0 (M0 Ls) sp_145 10]
  rfl
set_option maxRecDepth 100000 in
theorem E_145_32 (Ls d : Nat) (x1 x2 x3 : Int) (w : AW) : Lm P0 (M0 Ls) d m_Tally_nineDigits 32 [some (.inr (.inr 97)), some (.inl x1), some (.inl x2), some (.inl x3)] [] w = Lm P0 (M0 Ls) d m_Tally_nineDigits 14 [some (.inr (.inr 97)), some (.inl x1), some (.inl x2), some (.inl (w32 (x3 + 1)))] [] w := by
  rw [Lm_unf P0 (M0 Ls) sp_145 4]
  rfl
set_option maxRecDepth 100000 in
theorem E_145_38 (Ls d : Nat) (x1 x2 x3 : Int) (w : AW) : Lm P0 (M0 Ls) d m_Tally_nineDigits 38 [some (.inr (.inr 97)), some (.inl x1), some (.inl x2), some (.inl x3)] [] w = (if (w32 ((w32 (4 * x1)) + (w32 (Int.tdiv x2 2)))) < 0 then Lm P0 (M0 Ls) d m_Tally_nineDigits 59 [some (.inr (.inr 97)), some (.inl x1), some (.inl x2), some (.inl (w32 ((w32 (4 * x1)) + (w32 (Int.tdiv x2 2)))))] [] w else (if (w32 ((w32 (4 * x1)) + (w32 (Int.tdiv x2 2)))) < 244 then (if (Int.tmod x2 2) = 0 then (if 0 ≤ (w32 ((w32 (4 * x1)) + (w32 (Int.tdiv x2 2)))) ∧ (w32 ((w32 (4 * x1)) + (w32 (Int.tdiv x2 2)))) < 244 then Lm P0 (M0 Ls) d m_Tally_nineDigits 92 [some (.inr (.inr 97)), some (.inl x1), some (.inl x2), some (.inl (w32 ((w32 (4 * x1)) + (w32 (Int.tdiv x2 2)))))] [.inr (.inl (Int.tmod (rd w 97 (w32 ((w32 (4 * x1)) + (w32 (Int.tdiv x2 2))))) 1000000000))] w else none) else (if 0 ≤ (w32 ((w32 (4 * x1)) + (w32 (Int.tdiv x2 2)))) ∧ (w32 ((w32 (4 * x1)) + (w32 (Int.tdiv x2 2)))) < 244 then Lm P0 (M0 Ls) d m_Tally_nineDigits 92 [some (.inr (.inr 97)), some (.inl x1), some (.inl x2), some (.inl (w32 ((w32 (4 * x1)) + (w32 (Int.tdiv x2 2)))))] [.inr (.inl (w64 (Int.tdiv (rd w 97 (w32 ((w32 (4 * x1)) + (w32 (Int.tdiv x2 2))))) 1000000000)))] w else none)) else Lm P0 (M0 Ls) d m_Tally_nineDigits 59 [some (.inr (.inr 97)), some (.inl x1), some (.inl x2), some (.inl (w32 ((w32 (4 * x1)) + (w32 (Int.tdiv x2 2)))))] [] w)) := by
  rw [Lm_unf P0 (M0 Ls) sp_145 28]
  rfl
set_option maxRecDepth 100000 in
theorem E_145_59 (Ls d : Nat) (x1 x2 x3 : Int) (w : AW) : Lm P0 (M0 Ls) d m_Tally_nineDigits 59 [some (.inr (.inr 97)), some (.inl x1), some (.inl x2), some (.inl x3)] [] w = some (some (.inr (.inl (-1))), w) := by
  rw [Lm_unf P0 (M0 Ls) sp_145 3]
  rfl
set_option maxRecDepth 100000 in
theorem E_145_92 (Ls d : Nat) (x1 x2 x3 y0 : Int) (w : AW) : Lm P0 (M0 Ls) d m_Tally_nineDigits 92 [some (.inr (.inr 97)), some (.inl x1), some (.inl x2), some (.inl x3)] [.inr (.inl y0)] w = some (some (.inr (.inl y0)), w) := by
  rw [Lm_unf P0 (M0 Ls) sp_145 2]
  rfl
def sp_146 : Nat → Bool := fun q => [0, 26, 43, 49, 64, 74].contains q
set_option maxRecDepth 100000 in
theorem E_146_0 (Ls d : Nat) (w : AW) : Lm P0 (M0 Ls) d m_Tally_begin 0 [some (.inr (.inr 97)), none, none] [] w = (if (rd w 96 3) = 0 then Lm P0 (M0 Ls) d m_Tally_begin 26 [some (.inr (.inr 97)), some (.inl (w32 (4 * (rd w 94 8)))), none] [] w else (if 0 < (rd w 96 3) then (if 0 < (rd w 96 3) then (if 100 ≤ (shv (M0 Ls) w (adr (rd w 96 3))).1 ∧ (shv (M0 Ls) w (adr (rd w 96 3))).1 ≤ 112 then (if ((shv (M0 Ls) w (adr (rd w 96 3))).2 : Int) < (w32 (4 * (rd w 94 8))) then Lm P0 (M0 Ls) d m_Tally_begin 26 [some (.inr (.inr 97)), some (.inl (w32 (4 * (rd w 94 8)))), none] [] w else Lm P0 (M0 Ls) d m_Tally_begin 64 [some (.inr (.inr 97)), some (.inl (w32 (4 * (rd w 94 8)))), none] [] w) else none) else none) else none)) := by
  rw [Lm_unf P0 (M0 Ls) sp_146 16]
  rfl
set_option maxRecDepth 100000 in
theorem E_146_26 (Ls d : Nat) (x1 : Int) (w : AW) : Lm P0 (M0 Ls) d m_Tally_begin 26 [some (.inr (.inr 97)), some (.inl x1), none] [] w = (if (rd w 96 3) = 0 then Lm P0 (M0 Ls) d m_Tally_begin 43 [some (.inr (.inr 97)), some (.inl x1), none] [.inl 0, .inl x1] w else (if 0 < (rd w 96 3) then (if 0 < (rd w 96 3) then (if 100 ≤ (shv (M0 Ls) w (adr (rd w 96 3))).1 ∧ (shv (M0 Ls) w (adr (rd w 96 3))).1 ≤ 112 then Lm P0 (M0 Ls) d m_Tally_begin 43 [some (.inr (.inr 97)), some (.inl x1), none] [.inl ((shv (M0 Ls) w (adr (rd w 96 3))).2 : Int), .inl x1] w else none) else none) else none)) := by
  rw [Lm_unf P0 (M0 Ls) sp_146 9]
  rfl
set_option maxRecDepth 100000 in
theorem E_146_43 (Ls d : Nat) (x1 y0 y1 : Int) (w : AW) : Lm P0 (M0 Ls) d m_Tally_begin 43 [some (.inr (.inr 97)), some (.inl x1), none] [.inl y0, .inl y1] w = Lk P0 (M0 Ls) d m_E_roomFor [.inl y1, .inl y0, .inl 16384] w (fun r_ w_ => Lm P0 (M0 Ls) d m_Tally_begin 49 [some (.inr (.inr 97)), some (.inl x1), none] (r_.toList ++ []) w_) := by
  rw [Lm_unf P0 (M0 Ls) sp_146 3]
  rfl
set_option maxRecDepth 100000 in
theorem E_146_49 (Ls d : Nat) (x1 y0 : Int) (w : AW) : Lm P0 (M0 Ls) d m_Tally_begin 49 [some (.inr (.inr 97)), some (.inl x1), none] [.inl y0] w = (if 0 ≤ y0 ∧ y0 ≤ 1000000 then (if 0 ≤ y0 ∧ y0 ≤ 1000000 then Lm P0 (M0 Ls) d m_Tally_begin 64 [some (.inr (.inr 97)), some (.inl x1), some (.inl y0)] [] (wC (alloc (wC (alloc w 101 (Int.toNat y0)) 96 3 ((w.1 : Int) + 1)) 101 (Int.toNat y0)) 96 4 (((wC (alloc w 101 (Int.toNat y0)) 96 3 ((w.1 : Int) + 1)).1 : Int) + 1)) else none) else none) := by
  rw [Lm_unf P0 (M0 Ls) sp_146 11]
  rfl
set_option maxRecDepth 100000 in
theorem E_146_64 (Ls d : Nat) (x1 : Int) (u2 : Option AV) (w : AW) : Lm P0 (M0 Ls) d m_Tally_begin 64 [some (.inr (.inr 97)), some (.inl x1), u2] [] w = Lk P0 (M0 Ls) d m_Arrays_fill3 [.inr (.inr (rd w 96 3)), .inl 0, .inl x1, .inr (.inl 0)] w (fun r_ w_ => Lm P0 (M0 Ls) d m_Tally_begin 74 [some (.inr (.inr 97)), some (.inl x1), u2] (r_.toList ++ []) w_) := by
  rw [Lm_unf P0 (M0 Ls) sp_146 7]
  rfl
set_option maxRecDepth 100000 in
theorem E_146_74 (Ls d : Nat) (x1 : Int) (u2 : Option AV) (w : AW) : Lm P0 (M0 Ls) d m_Tally_begin 74 [some (.inr (.inr 97)), some (.inl x1), u2] [] w = (arN (M0 Ls) w (rd w 96 3) 101 101 101 none (fun a1 n1 => (if (0 : Int) ≤ 0 ∧ 0 < (n1 : Int) then some (none, wC (wC w a1 0 1) 96 5 0) else none))) := by
  rw [Lm_unf P0 (M0 Ls) sp_146 10]
  rfl
def sp_147 : Nat → Bool := fun q => [0, 18, 38, 52, 64, 67, 83, 102, 107, 145, 150, 156, 194].contains q
set_option maxRecDepth 100000 in
theorem E_147_0 (Ls d : Nat) (w : AW) : Lm P0 (M0 Ls) d m_Tally_goOn 0 [some (.inr (.inr 97)), none, none, none, none, none] [] w = Lk P0 (M0 Ls) d m_Arrays_fill3 [.inr (.inr (rd w 96 4)), .inl 0, .inl (w32 (4 * (rd w 94 8))), .inr (.inl 0)] w (fun r_ w_ => Lm P0 (M0 Ls) d m_Tally_goOn 18 [some (.inr (.inr 97)), none, none, none, none, none] (r_.toList ++ []) w_) := by
  rw [Lm_unf P0 (M0 Ls) sp_147 11]
  rfl
set_option maxRecDepth 100000 in
theorem E_147_18 (Ls d : Nat) (w : AW) : Lm P0 (M0 Ls) d m_Tally_goOn 18 [some (.inr (.inr 97)), none, none, none, none, none] [] w = Lk P0 (M0 Ls) d m_Math_min [.inl 4, .inl (w32 (1 + (w32 (Int.tdiv (w32 ((w32 ((rd w 96 5) + 1)) * 108)) 1800))))] w (fun r_ w_ => Lm P0 (M0 Ls) d m_Tally_goOn 38 [some (.inr (.inr 97)), none, none, none, none, none] (r_.toList ++ [.inr (.inr 97)]) w_) := by
  rw [Lm_unf P0 (M0 Ls) sp_147 14]
  rfl
set_option maxRecDepth 100000 in
theorem E_147_38 (Ls d : Nat) (y0 : Int) (w : AW) : Lm P0 (M0 Ls) d m_Tally_goOn 38 [some (.inr (.inr 97)), none, none, none, none, none] [.inl y0, .inr (.inr 97)] w = Lk P0 (M0 Ls) d m_State_lowDigit [.inr (.inr 57), .inl (rd (wC w 96 6 y0) 96 5)] (wC w 96 6 y0) (fun r_ w_ => Lm P0 (M0 Ls) d m_Tally_goOn 52 [some (.inr (.inr 97)), none, none, none, none, none] (r_.toList ++ []) w_) := by
  rw [Lm_unf P0 (M0 Ls) sp_147 7]
  rfl
set_option maxRecDepth 100000 in
theorem E_147_52 (Ls d : Nat) (y0 : Int) (w : AW) : Lm P0 (M0 Ls) d m_Tally_goOn 52 [some (.inr (.inr 97)), none, none, none, none, none] [.inl y0] w = Lk P0 (M0 Ls) d m_State_highDigit [.inr (.inr 57), .inl (rd w 96 5)] w (fun r_ w_ => Lm P0 (M0 Ls) d m_Tally_goOn 64 [some (.inr (.inr 97)), some (.inl y0), none, none, none, none] (r_.toList ++ []) w_) := by
  rw [Lm_unf P0 (M0 Ls) sp_147 7]
  rfl
set_option maxRecDepth 100000 in
theorem E_147_64 (Ls d : Nat) (x1 y0 : Int) (w : AW) : Lm P0 (M0 Ls) d m_Tally_goOn 64 [some (.inr (.inr 97)), some (.inl x1), none, none, none, none] [.inl y0] w = Lm P0 (M0 Ls) d m_Tally_goOn 67 [some (.inr (.inr 97)), some (.inl x1), some (.inl y0), some (.inl 0), none, none] [] w := by
  rw [Lm_unf P0 (M0 Ls) sp_147 5]
  rfl
set_option maxRecDepth 100000 in
theorem E_147_67 (Ls d : Nat) (x1 x2 x3 : Int) (u4 u5 : Option AV) (w : AW) : Lm P0 (M0 Ls) d m_Tally_goOn 67 [some (.inr (.inr 97)), some (.inl x1), some (.inl x2), some (.inl x3), u4, u5] [] w = (if x3 < (rd w 94 8) then Lk P0 (M0 Ls) d m_Tally_isEmptyAt [.inr (.inr 97), .inl x3] w (fun r_ w_ => Lm P0 (M0 Ls) d m_Tally_goOn 83 [some (.inr (.inr 97)), some (.inl x1), some (.inl x2), some (.inl x3), u4, u5] (r_.toList ++ []) w_) else Lk P0 (M0 Ls) d m_Tally_sumUp [.inr (.inr 97)] (wC (wC (wC w 96 3 (rd w 96 4)) 96 4 (rd w 96 3)) 96 5 (w32 ((rd (wC (wC w 96 3 (rd w 96 4)) 96 4 (rd w 96 3)) 96 5) + 1))) (fun r_ w_ => Lm P0 (M0 Ls) d m_Tally_goOn 194 [some (.inr (.inr 97)), some (.inl x1), some (.inl x2), some (.inr (.inr (rd w 96 3))), u4, u5] (r_.toList ++ []) w_)) := by
  rw [Lm_unf P0 (M0 Ls) sp_147 24]
  rfl
set_option maxRecDepth 100000 in
theorem E_147_83 (Ls d : Nat) (x1 x2 x3 y0 : Int) (u4 u5 : Option AV) (w : AW) : Lm P0 (M0 Ls) d m_Tally_goOn 83 [some (.inr (.inr 97)), some (.inl x1), some (.inl x2), some (.inl x3), u4, u5] [.inl y0] w = (if y0 = 0 then Lk P0 (M0 Ls) d m_Tb_allowedIn [.inr (.inr 95), .inl (rd w 96 5), .inl x3] w (fun r_ w_ => Lm P0 (M0 Ls) d m_Tally_goOn 102 [some (.inr (.inr 97)), some (.inl x1), some (.inl x2), some (.inl x3), u4, u5] (r_.toList ++ []) w_) else Lm P0 (M0 Ls) d m_Tally_goOn 102 [some (.inr (.inr 97)), some (.inl x1), some (.inl x2), some (.inl x3), u4, u5] [.inl 0] w) := by
  rw [Lm_unf P0 (M0 Ls) sp_147 8]
  rfl
set_option maxRecDepth 100000 in
theorem E_147_102 (Ls d : Nat) (x1 x2 x3 y0 : Int) (u4 u5 : Option AV) (w : AW) : Lm P0 (M0 Ls) d m_Tally_goOn 102 [some (.inr (.inr 97)), some (.inl x1), some (.inl x2), some (.inl x3), u4, u5] [.inl y0] w = Lm P0 (M0 Ls) d m_Tally_goOn 107 [some (.inr (.inr 97)), some (.inl x1), some (.inl x2), some (.inl x3), some (.inl y0), some (.inl x1)] [] w := by
  rw [Lm_unf P0 (M0 Ls) sp_147 5]
  rfl
set_option maxRecDepth 100000 in
theorem E_147_107 (Ls d : Nat) (x1 x2 x3 x4 x5 : Int) (w : AW) : Lm P0 (M0 Ls) d m_Tally_goOn 107 [some (.inr (.inr 97)), some (.inl x1), some (.inl x2), some (.inl x3), some (.inl x4), some (.inl x5)] [] w = (if x2 < x5 then Lm P0 (M0 Ls) d m_Tally_goOn 156 [some (.inr (.inr 97)), some (.inl x1), some (.inl x2), some (.inl x3), some (.inl x4), some (.inl x5)] [] w else (if x4 = 0 then Lm P0 (M0 Ls) d m_Tally_goOn 156 [some (.inr (.inr 97)), some (.inl x1), some (.inl x2), some (.inl x3), some (.inl x4), some (.inl x5)] [] w else (if (i32 (fun x y => x &&& y) (i32 (fun x y => x >>> (y &&& 31)) x4 x5) 1) = 1 then Lk P0 (M0 Ls) d m_Tb_after [.inr (.inr 95), .inl x3, .inl x5] w (fun r_ w_ => Lm P0 (M0 Ls) d m_Tally_goOn 145 [some (.inr (.inr 97)), some (.inl x1), some (.inl x2), some (.inl x3), some (.inl x4), some (.inl x5)] (r_.toList ++ [.inl 4, .inr (.inr (rd w 96 4)), .inr (.inr 97)]) w_) else Lm P0 (M0 Ls) d m_Tally_goOn 150 [some (.inr (.inr 97)), some (.inl x1), some (.inl x2), some (.inl x3), some (.inl x4), some (.inl x5)] [] w))) := by
  rw [Lm_unf P0 (M0 Ls) sp_147 22]
  rfl
set_option maxRecDepth 100000 in
theorem E_147_145 (Ls d : Nat) (x1 x2 x3 x4 x5 y0 y1 y2 : Int) (w : AW) : Lm P0 (M0 Ls) d m_Tally_goOn 145 [some (.inr (.inr 97)), some (.inl x1), some (.inl x2), some (.inl x3), some (.inl x4), some (.inl x5)] [.inl y0, .inl y1, .inr (.inr y2), .inr (.inr 97)] w = Lk P0 (M0 Ls) d m_Tally_add [.inr (.inr 97), .inr (.inr y2), .inl (w32 (y1 * y0)), .inl x3] w (fun r_ w_ => Lm P0 (M0 Ls) d m_Tally_goOn 150 [some (.inr (.inr 97)), some (.inl x1), some (.inl x2), some (.inl x3), some (.inl x4), some (.inl x5)] (r_.toList ++ []) w_) := by
  rw [Lm_unf P0 (M0 Ls) sp_147 4]
  rfl
set_option maxRecDepth 100000 in
theorem E_147_150 (Ls d : Nat) (x1 x2 x3 x4 x5 : Int) (w : AW) : Lm P0 (M0 Ls) d m_Tally_goOn 150 [some (.inr (.inr 97)), some (.inl x1), some (.inl x2), some (.inl x3), some (.inl x4), some (.inl x5)] [] w = Lm P0 (M0 Ls) d m_Tally_goOn 107 [some (.inr (.inr 97)), some (.inl x1), some (.inl x2), some (.inl x3), some (.inl x4), some (.inl (w32 (x5 + 1)))] [] w := by
  rw [Lm_unf P0 (M0 Ls) sp_147 4]
  rfl
set_option maxRecDepth 100000 in
theorem E_147_156 (Ls d : Nat) (x1 x2 x3 x4 x5 : Int) (w : AW) : Lm P0 (M0 Ls) d m_Tally_goOn 156 [some (.inr (.inr 97)), some (.inl x1), some (.inl x2), some (.inl x3), some (.inl x4), some (.inl x5)] [] w = Lm P0 (M0 Ls) d m_Tally_goOn 67 [some (.inr (.inr 97)), some (.inl x1), some (.inl x2), some (.inl (w32 (x3 + 1))), some (.inl x4), some (.inl x5)] [] w := by
  rw [Lm_unf P0 (M0 Ls) sp_147 4]
  rfl
set_option maxRecDepth 100000 in
theorem E_147_194 (Ls d : Nat) (x1 x2 x3 : Int) (u4 u5 : Option AV) (w : AW) : Lm P0 (M0 Ls) d m_Tally_goOn 194 [some (.inr (.inr 97)), some (.inl x1), some (.inl x2), some (.inr (.inr x3)), u4, u5] [] w = some (none, w) := by
  rw [Lm_unf P0 (M0 Ls) sp_147 2]
  rfl
def sp_148 : Nat → Bool := fun q => [0, 19, 21, 37, 52, 65].contains q
set_option maxRecDepth 100000 in
theorem E_148_0 (Ls d : Nat) (w : AW) : Lm P0 (M0 Ls) d m_Tally_sumUp 0 [some (.inr (.inr 97)), none, none] [] w = Lk P0 (M0 Ls) d m_Arrays_fill3 [.inr (.inr 98), .inl (w32 (4 * (rd w 96 5))), .inl (w32 ((w32 (4 * (rd w 96 5))) + 4)), .inr (.inl 0)] w (fun r_ w_ => Lm P0 (M0 Ls) d m_Tally_sumUp 19 [some (.inr (.inr 97)), some (.inl (w32 (4 * (rd w 96 5)))), none] (r_.toList ++ []) w_) := by
  rw [Lm_unf P0 (M0 Ls) sp_148 14]
  rfl
set_option maxRecDepth 100000 in
theorem E_148_19 (Ls d : Nat) (x1 : Int) (w : AW) : Lm P0 (M0 Ls) d m_Tally_sumUp 19 [some (.inr (.inr 97)), some (.inl x1), none] [] w = Lm P0 (M0 Ls) d m_Tally_sumUp 21 [some (.inr (.inr 97)), some (.inl x1), some (.inl 0)] [] w := by
  rw [Lm_unf P0 (M0 Ls) sp_148 4]
  rfl
set_option maxRecDepth 100000 in
theorem E_148_21 (Ls d : Nat) (x1 x2 : Int) (w : AW) : Lm P0 (M0 Ls) d m_Tally_sumUp 21 [some (.inr (.inr 97)), some (.inl x1), some (.inl x2)] [] w = (if x2 < (rd w 94 8) then Lk P0 (M0 Ls) d m_Tally_isEmptyAt [.inr (.inr 97), .inl x2] w (fun r_ w_ => Lm P0 (M0 Ls) d m_Tally_sumUp 37 [some (.inr (.inr 97)), some (.inl x1), some (.inl x2)] (r_.toList ++ []) w_) else some (none, w)) := by
  rw [Lm_unf P0 (M0 Ls) sp_148 9]
  rfl
set_option maxRecDepth 100000 in
theorem E_148_37 (Ls d : Nat) (x1 x2 y0 : Int) (w : AW) : Lm P0 (M0 Ls) d m_Tally_sumUp 37 [some (.inr (.inr 97)), some (.inl x1), some (.inl x2)] [.inl y0] w = (if y0 = 0 then Lk P0 (M0 Ls) d m_Tb_endsWell [.inr (.inr 95), .inl (rd w 96 5), .inl x2] w (fun r_ w_ => Lm P0 (M0 Ls) d m_Tally_sumUp 52 [some (.inr (.inr 97)), some (.inl x1), some (.inl x2)] (r_.toList ++ []) w_) else Lm P0 (M0 Ls) d m_Tally_sumUp 65 [some (.inr (.inr 97)), some (.inl x1), some (.inl x2)] [] w) := by
  rw [Lm_unf P0 (M0 Ls) sp_148 8]
  rfl
set_option maxRecDepth 100000 in
theorem E_148_52 (Ls d : Nat) (x1 x2 y0 : Int) (w : AW) : Lm P0 (M0 Ls) d m_Tally_sumUp 52 [some (.inr (.inr 97)), some (.inl x1), some (.inl x2)] [.inl y0] w = (if y0 = 0 then Lm P0 (M0 Ls) d m_Tally_sumUp 65 [some (.inr (.inr 97)), some (.inl x1), some (.inl x2)] [] w else Lk P0 (M0 Ls) d m_Tally_add [.inr (.inr 97), .inr (.inr 98), .inl x1, .inl x2] w (fun r_ w_ => Lm P0 (M0 Ls) d m_Tally_sumUp 65 [some (.inr (.inr 97)), some (.inl x1), some (.inl x2)] (r_.toList ++ []) w_)) := by
  rw [Lm_unf P0 (M0 Ls) sp_148 8]
  rfl
set_option maxRecDepth 100000 in
theorem E_148_65 (Ls d : Nat) (x1 x2 : Int) (w : AW) : Lm P0 (M0 Ls) d m_Tally_sumUp 65 [some (.inr (.inr 97)), some (.inl x1), some (.inl x2)] [] w = Lm P0 (M0 Ls) d m_Tally_sumUp 21 [some (.inr (.inr 97)), some (.inl x1), some (.inl (w32 (x2 + 1)))] [] w := by
  rw [Lm_unf P0 (M0 Ls) sp_148 4]
  rfl
def sp_149 : Nat → Bool := fun q => [0, 47].contains q
set_option maxRecDepth 100000 in
theorem E_149_0 (Ls d : Nat) (p1 : Int) (w : AW) : Lm P0 (M0 Ls) d m_Tally_isEmptyAt 0 [some (.inr (.inr 97)), some (.inl p1), none] [] w = (arN (M0 Ls) w (rd w 96 3) 101 101 101 none (fun a1 n1 => (if (0 : Int) ≤ (w32 (4 * p1)) ∧ (w32 (4 * p1)) < (n1 : Int) then (arN (M0 Ls) w (rd w 96 3) 101 101 101 none (fun a2 n2 => (if (0 : Int) ≤ (w32 ((w32 (4 * p1)) + 1)) ∧ (w32 ((w32 (4 * p1)) + 1)) < (n2 : Int) then (arN (M0 Ls) w (rd w 96 3) 101 101 101 none (fun a3 n3 => (if (0 : Int) ≤ (w32 ((w32 (4 * p1)) + 2)) ∧ (w32 ((w32 (4 * p1)) + 2)) < (n3 : Int) then (arN (M0 Ls) w (rd w 96 3) 101 101 101 none (fun a4 n4 => (if (0 : Int) ≤ (w32 ((w32 (4 * p1)) + 3)) ∧ (w32 ((w32 (4 * p1)) + 3)) < (n4 : Int) then (if (if (i64 (fun x y => x ||| y) (i64 (fun x y => x ||| y) (i64 (fun x y => x ||| y) (rd w a1 (w32 (4 * p1))) (rd w a2 (w32 ((w32 (4 * p1)) + 1)))) (rd w a3 (w32 ((w32 (4 * p1)) + 2)))) (rd w a4 (w32 ((w32 (4 * p1)) + 3)))) < 0 then -1 else if (i64 (fun x y => x ||| y) (i64 (fun x y => x ||| y) (i64 (fun x y => x ||| y) (rd w a1 (w32 (4 * p1))) (rd w a2 (w32 ((w32 (4 * p1)) + 1)))) (rd w a3 (w32 ((w32 (4 * p1)) + 2)))) (rd w a4 (w32 ((w32 (4 * p1)) + 3)))) = 0 then 0 else 1 : Int) = 0 then Lm P0 (M0 Ls) d m_Tally_isEmptyAt 47 [some (.inr (.inr 97)), some (.inl p1), some (.inl (w32 (4 * p1)))] [.inl 1] w else Lm P0 (M0 Ls) d m_Tally_isEmptyAt 47 [some (.inr (.inr 97)), some (.inl p1), some (.inl (w32 (4 * p1)))] [.inl 0] w) else none))) else none))) else none))) else none))) := by
  rw [Lm_unf P0 (M0 Ls) sp_149 36]
  rfl
set_option maxRecDepth 100000 in
theorem E_149_47 (Ls d : Nat) (x1 x2 y0 : Int) (w : AW) : Lm P0 (M0 Ls) d m_Tally_isEmptyAt 47 [some (.inr (.inr 97)), some (.inl x1), some (.inl x2)] [.inl y0] w = (if rok 3 y0 = true then some (some (.inl y0), w) else none) := by
  rw [Lm_unf P0 (M0 Ls) sp_149 2]
  rfl
def sp_150 : Nat → Bool := fun q => [0, 6, 52, 77].contains q
set_option maxRecDepth 100000 in
theorem E_150_0 (Ls d : Nat) (p1 p2 p3 : Int) (w : AW) : Lm P0 (M0 Ls) d m_Tally_add 0 [some (.inr (.inr 97)), some (.inr (.inr p1)), some (.inl p2), some (.inl p3), none, none, none, none, none] [] w = Lm P0 (M0 Ls) d m_Tally_add 6 [some (.inr (.inr 97)), some (.inr (.inr p1)), some (.inl p2), some (.inl p3), some (.inr (.inl 0)), none, some (.inl 0), none, none] [] w := by
  rw [Lm_unf P0 (M0 Ls) sp_150 6]
  rfl
set_option maxRecDepth 100000 in
theorem E_150_6 (Ls d : Nat) (x1 x2 x3 x4 x6 : Int) (u7 : Option AV) (w : AW) : Lm P0 (M0 Ls) d m_Tally_add 6 [some (.inr (.inr 97)), some (.inr (.inr x1)), some (.inl x2), some (.inl x3), some (.inr (.inl x4)), none, some (.inl x6), u7, none] [] w = (if x6 < (rd w 96 6) then (arN (M0 Ls) w x1 101 101 101 none (fun a1 n1 => (if (0 : Int) ≤ (w32 (x2 + x6)) ∧ (w32 (x2 + x6)) < (n1 : Int) then (arN (M0 Ls) w (rd w 96 3) 101 101 101 none (fun a2 n2 => (if (0 : Int) ≤ (w32 ((w32 (4 * x3)) + x6)) ∧ (w32 ((w32 (4 * x3)) + x6)) < (n2 : Int) then (if (if (w64 ((w64 ((rd w a1 (w32 (x2 + x6))) + (rd w a2 (w32 ((w32 (4 * x3)) + x6))))) + x4)) < 1000000000000000000 then -1 else if (w64 ((w64 ((rd w a1 (w32 (x2 + x6))) + (rd w a2 (w32 ((w32 (4 * x3)) + x6))))) + x4)) = 1000000000000000000 then 0 else 1 : Int) < 0 then Lm P0 (M0 Ls) d m_Tally_add 52 [some (.inr (.inr 97)), some (.inr (.inr x1)), some (.inl x2), some (.inl x3), some (.inr (.inl x4)), none, some (.inl x6), some (.inr (.inl (w64 ((w64 ((rd w a1 (w32 (x2 + x6))) + (rd w a2 (w32 ((w32 (4 * x3)) + x6))))) + x4)))), none] [.inr (.inl 0)] w else Lm P0 (M0 Ls) d m_Tally_add 52 [some (.inr (.inr 97)), some (.inr (.inr x1)), some (.inl x2), some (.inl x3), some (.inr (.inl x4)), none, some (.inl x6), some (.inr (.inl (w64 ((w64 ((rd w a1 (w32 (x2 + x6))) + (rd w a2 (w32 ((w32 (4 * x3)) + x6))))) + x4)))), none] [.inr (.inl 1)] w) else none))) else none))) else some (none, w)) := by
  rw [Lm_unf P0 (M0 Ls) sp_150 29]
  rfl
set_option maxRecDepth 100000 in
theorem E_150_52 (Ls d : Nat) (x1 x2 x3 x4 x6 x7 y0 : Int) (w : AW) : Lm P0 (M0 Ls) d m_Tally_add 52 [some (.inr (.inr 97)), some (.inr (.inr x1)), some (.inl x2), some (.inl x3), some (.inr (.inl x4)), none, some (.inl x6), some (.inr (.inl x7)), none] [.inr (.inl y0)] w = (if (if y0 < 1 then -1 else if y0 = 1 then 0 else 1 : Int) = 0 then Lm P0 (M0 Ls) d m_Tally_add 77 [some (.inr (.inr 97)), some (.inr (.inr x1)), some (.inl x2), some (.inl x3), some (.inr (.inl y0)), none, some (.inl x6), some (.inr (.inl x7)), none] [.inr (.inl (w64 (x7 - 1000000000000000000))), .inl (w32 (x2 + x6)), .inr (.inr x1)] w else Lm P0 (M0 Ls) d m_Tally_add 77 [some (.inr (.inr 97)), some (.inr (.inr x1)), some (.inl x2), some (.inl x3), some (.inr (.inl y0)), none, some (.inl x6), some (.inr (.inl x7)), none] [.inr (.inl x7), .inl (w32 (x2 + x6)), .inr (.inr x1)] w) := by
  rw [Lm_unf P0 (M0 Ls) sp_150 15]
  rfl
set_option maxRecDepth 100000 in
theorem E_150_77 (Ls d : Nat) (x1 x2 x3 x4 x6 x7 y0 y1 y2 : Int) (w : AW) : Lm P0 (M0 Ls) d m_Tally_add 77 [some (.inr (.inr 97)), some (.inr (.inr x1)), some (.inl x2), some (.inl x3), some (.inr (.inl x4)), none, some (.inl x6), some (.inr (.inl x7)), none] [.inr (.inl y0), .inl y1, .inr (.inr y2)] w = (arN (M0 Ls) w y2 101 101 101 none (fun a1 n1 => (if (0 : Int) ≤ y1 ∧ y1 < (n1 : Int) then Lm P0 (M0 Ls) d m_Tally_add 6 [some (.inr (.inr 97)), some (.inr (.inr x1)), some (.inl x2), some (.inl x3), some (.inr (.inl x4)), none, some (.inl (w32 (x6 + 1))), some (.inr (.inl x7)), none] [] (wC w a1 y1 y0) else none))) := by
  rw [Lm_unf P0 (M0 Ls) sp_150 5]
  rfl
