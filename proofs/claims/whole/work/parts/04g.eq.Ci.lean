def sp_180 : Nat → Bool := fun q => [0, 8].contains q
set_option maxRecDepth 100000 in
theorem E_180_0 (Ls d : Nat) (w : AW) : Lm P0 (M0 Ls) d m_Ci_forget 0 [some (.inr (.inr 107))] [] w = Lk P0 (M0 Ls) d m_Arrays_fill [.inr (.inr 108), .inl (-1)] w (fun r_ w_ => Lm P0 (M0 Ls) d m_Ci_forget 8 [some (.inr (.inr 107))] (r_.toList ++ []) w_) := by
  rw [Lm_unf P0 (M0 Ls) sp_180 5]
  rfl
set_option maxRecDepth 100000 in
theorem E_180_8 (Ls d : Nat) (w : AW) : Lm P0 (M0 Ls) d m_Ci_forget 8 [some (.inr (.inr 107))] [] w = some (none, w) := by
  rw [Lm_unf P0 (M0 Ls) sp_180 2]
  rfl
def sp_181 : Nat → Bool := fun q => [0, 16, 29, 36, 37].contains q
set_option maxRecDepth 100000 in
theorem E_181_0 (Ls d : Nat) (p1 : Int) (w : AW) : Lm P0 (M0 Ls) d m_Ci_canTell 0 [some (.inr (.inr 107)), some (.inl p1)] [] w = (if p1 < 1 then Lm P0 (M0 Ls) d m_Ci_canTell 36 [some (.inr (.inr 107)), some (.inl p1)] [] w else (if 8 < p1 then Lm P0 (M0 Ls) d m_Ci_canTell 36 [some (.inr (.inr 107)), some (.inl p1)] [] w else Lk P0 (M0 Ls) d m_Ci_rowsOf [.inr (.inr 107), .inl p1] w (fun r_ w_ => Lm P0 (M0 Ls) d m_Ci_canTell 16 [some (.inr (.inr 107)), some (.inl p1)] (r_.toList ++ []) w_))) := by
  rw [Lm_unf P0 (M0 Ls) sp_181 10]
  rfl
set_option maxRecDepth 100000 in
theorem E_181_16 (Ls d : Nat) (x1 y0 : Int) (w : AW) : Lm P0 (M0 Ls) d m_Ci_canTell 16 [some (.inr (.inr 107)), some (.inl x1)] [.inl y0] w = (if 20000 < y0 then Lm P0 (M0 Ls) d m_Ci_canTell 36 [some (.inr (.inr 107)), some (.inl x1)] [] w else Lk P0 (M0 Ls) d m_Rock_isPlain [.inr (.inr 58)] w (fun r_ w_ => Lm P0 (M0 Ls) d m_Ci_canTell 29 [some (.inr (.inr 107)), some (.inl x1)] (r_.toList ++ []) w_)) := by
  rw [Lm_unf P0 (M0 Ls) sp_181 6]
  rfl
set_option maxRecDepth 100000 in
theorem E_181_29 (Ls d : Nat) (x1 y0 : Int) (w : AW) : Lm P0 (M0 Ls) d m_Ci_canTell 29 [some (.inr (.inr 107)), some (.inl x1)] [.inl y0] w = (if y0 = 0 then Lm P0 (M0 Ls) d m_Ci_canTell 36 [some (.inr (.inr 107)), some (.inl x1)] [] w else Lm P0 (M0 Ls) d m_Ci_canTell 37 [some (.inr (.inr 107)), some (.inl x1)] [.inl 1] w) := by
  rw [Lm_unf P0 (M0 Ls) sp_181 5]
  rfl
set_option maxRecDepth 100000 in
theorem E_181_36 (Ls d : Nat) (x1 : Int) (w : AW) : Lm P0 (M0 Ls) d m_Ci_canTell 36 [some (.inr (.inr 107)), some (.inl x1)] [] w = Lm P0 (M0 Ls) d m_Ci_canTell 37 [some (.inr (.inr 107)), some (.inl x1)] [.inl 0] w := by
  rw [Lm_unf P0 (M0 Ls) sp_181 3]
  rfl
set_option maxRecDepth 100000 in
theorem E_181_37 (Ls d : Nat) (x1 y0 : Int) (w : AW) : Lm P0 (M0 Ls) d m_Ci_canTell 37 [some (.inr (.inr 107)), some (.inl x1)] [.inl y0] w = (if rok 3 y0 = true then some (some (.inl y0), w) else none) := by
  rw [Lm_unf P0 (M0 Ls) sp_181 2]
  rfl
def sp_182 : Nat → Bool := fun q => [0, 11, 28, 34, 40, 42, 53, 64, 70, 88, 100, 127, 138, 144].contains q
set_option maxRecDepth 100000 in
theorem E_182_0 (Ls d : Nat) (p1 : Int) (w : AW) : Lm P0 (M0 Ls) d m_Ci_howMany 0 [some (.inr (.inr 107)), some (.inl p1), none, none] [] w = (if p1 < 1 then Lm P0 (M0 Ls) d m_Ci_howMany 11 [some (.inr (.inr 107)), some (.inl p1), none, none] [] w else (if 8 < p1 then Lm P0 (M0 Ls) d m_Ci_howMany 11 [some (.inr (.inr 107)), some (.inl p1), none, none] [] w else (if 0 ≤ p1 ∧ p1 < 9 then (if (rd w 107 p1) = (-1) then Lk P0 (M0 Ls) d m_Ci_rowsOf [.inr (.inr 107), .inl p1] w (fun r_ w_ => Lm P0 (M0 Ls) d m_Ci_howMany 28 [some (.inr (.inr 107)), some (.inl p1), none, none] (r_.toList ++ []) w_) else Lm P0 (M0 Ls) d m_Ci_howMany 144 [some (.inr (.inr 107)), some (.inl p1), none, none] [] w) else none))) := by
  rw [Lm_unf P0 (M0 Ls) sp_182 16]
  rfl
set_option maxRecDepth 100000 in
theorem E_182_11 (Ls d : Nat) (x1 : Int) (w : AW) : Lm P0 (M0 Ls) d m_Ci_howMany 11 [some (.inr (.inr 107)), some (.inl x1), none, none] [] w = some (some (.inl (-1)), w) := by
  rw [Lm_unf P0 (M0 Ls) sp_182 3]
  rfl
set_option maxRecDepth 100000 in
theorem E_182_28 (Ls d : Nat) (x1 y0 : Int) (w : AW) : Lm P0 (M0 Ls) d m_Ci_howMany 28 [some (.inr (.inr 107)), some (.inl x1), none, none] [.inl y0] w = Lk P0 (M0 Ls) d m_Math_min [.inl y0, .inl 20000] w (fun r_ w_ => Lm P0 (M0 Ls) d m_Ci_howMany 34 [some (.inr (.inr 107)), some (.inl x1), none, none] (r_.toList ++ []) w_) := by
  rw [Lm_unf P0 (M0 Ls) sp_182 3]
  rfl
set_option maxRecDepth 100000 in
theorem E_182_34 (Ls d : Nat) (x1 y0 : Int) (w : AW) : Lm P0 (M0 Ls) d m_Ci_howMany 34 [some (.inr (.inr 107)), some (.inl x1), none, none] [.inl y0] w = Lk P0 (M0 Ls) d m_Ci_makeRows [.inr (.inr 107), .inl y0] w (fun r_ w_ => Lm P0 (M0 Ls) d m_Ci_howMany 40 [some (.inr (.inr 107)), some (.inl x1), some (.inl y0), none] (r_.toList ++ []) w_) := by
  rw [Lm_unf P0 (M0 Ls) sp_182 5]
  rfl
set_option maxRecDepth 100000 in
theorem E_182_40 (Ls d : Nat) (x1 x2 : Int) (w : AW) : Lm P0 (M0 Ls) d m_Ci_howMany 40 [some (.inr (.inr 107)), some (.inl x1), some (.inl x2), none] [] w = Lm P0 (M0 Ls) d m_Ci_howMany 42 [some (.inr (.inr 107)), some (.inl x1), some (.inl x2), some (.inl 0)] [] w := by
  rw [Lm_unf P0 (M0 Ls) sp_182 4]
  rfl
set_option maxRecDepth 100000 in
theorem E_182_42 (Ls d : Nat) (x1 x2 x3 : Int) (w : AW) : Lm P0 (M0 Ls) d m_Ci_howMany 42 [some (.inr (.inr 107)), some (.inl x1), some (.inl x2), some (.inl x3)] [] w = (if x3 < x2 then Lk P0 (M0 Ls) d m_Ci_layVoices [.inr (.inr 107), .inl x3, .inl x1] w (fun r_ w_ => Lm P0 (M0 Ls) d m_Ci_howMany 53 [some (.inr (.inr 107)), some (.inl x1), some (.inl x2), some (.inl x3)] (r_.toList ++ []) w_) else (if 0 ≤ x1 ∧ x1 < 9 then Lm P0 (M0 Ls) d m_Ci_howMany 88 [some (.inr (.inr 107)), some (.inl x1), some (.inl x2), some (.inl 0)] [] (wC w 107 x1 0) else none)) := by
  rw [Lm_unf P0 (M0 Ls) sp_182 12]
  rfl
set_option maxRecDepth 100000 in
theorem E_182_53 (Ls d : Nat) (x1 x2 x3 : Int) (w : AW) : Lm P0 (M0 Ls) d m_Ci_howMany 53 [some (.inr (.inr 107)), some (.inl x1), some (.inl x2), some (.inl x3)] [] w = Lk P0 (M0 Ls) d m_Ci_keeps [.inr (.inr 107), .inl 1] w (fun r_ w_ => Lm P0 (M0 Ls) d m_Ci_howMany 64 [some (.inr (.inr 107)), some (.inl x1), some (.inl x2), some (.inl x3)] (r_.toList ++ [.inl 2, .inl x3, .inr (.inr (rd w 106 5))]) w_) := by
  rw [Lm_unf P0 (M0 Ls) sp_182 8]
  rfl
set_option maxRecDepth 100000 in
theorem E_182_64 (Ls d : Nat) (x1 x2 x3 y0 y1 y2 y3 : Int) (w : AW) : Lm P0 (M0 Ls) d m_Ci_howMany 64 [some (.inr (.inr 107)), some (.inl x1), some (.inl x2), some (.inl x3)] [.inl y0, .inl y1, .inl y2, .inr (.inr y3)] w = Lk P0 (M0 Ls) d m_Ci_keeps [.inr (.inr 107), .inl 0] w (fun r_ w_ => Lm P0 (M0 Ls) d m_Ci_howMany 70 [some (.inr (.inr 107)), some (.inl x1), some (.inl x2), some (.inl x3)] (r_.toList ++ [.inl (w32 (y1 * y0)), .inl y2, .inr (.inr y3)]) w_) := by
  rw [Lm_unf P0 (M0 Ls) sp_182 5]
  rfl
set_option maxRecDepth 100000 in
theorem E_182_70 (Ls d : Nat) (x1 x2 x3 y0 y1 y2 y3 : Int) (w : AW) : Lm P0 (M0 Ls) d m_Ci_howMany 70 [some (.inr (.inr 107)), some (.inl x1), some (.inl x2), some (.inl x3)] [.inl y0, .inl y1, .inl y2, .inr (.inr y3)] w = (arN (M0 Ls) w y3 102 103 103 none (fun a1 n1 => (if (0 : Int) ≤ y2 ∧ y2 < (n1 : Int) then (if (shv (M0 Ls) w a1).1 = 102 then (if -128 ≤ (Int.bmod (w32 (y1 + y0)) 256) ∧ (Int.bmod (w32 (y1 + y0)) 256) < 128 then Lm P0 (M0 Ls) d m_Ci_howMany 42 [some (.inr (.inr 107)), some (.inl x1), some (.inl x2), some (.inl (w32 (x3 + 1)))] [] (wC w a1 y2 (Int.bmod (w32 (y1 + y0)) 256)) else none) else (if (Int.bmod (w32 (y1 + y0)) 256) = 0 ∨ (Int.bmod (w32 (y1 + y0)) 256) = 1 then Lm P0 (M0 Ls) d m_Ci_howMany 42 [some (.inr (.inr 107)), some (.inl x1), some (.inl x2), some (.inl (w32 (x3 + 1)))] [] (wC w a1 y2 (Int.bmod (w32 (y1 + y0)) 256)) else none)) else none))) := by
  rw [Lm_unf P0 (M0 Ls) sp_182 7]
  rfl
set_option maxRecDepth 100000 in
theorem E_182_88 (Ls d : Nat) (x1 x2 x3 : Int) (w : AW) : Lm P0 (M0 Ls) d m_Ci_howMany 88 [some (.inr (.inr 107)), some (.inl x1), some (.inl x2), some (.inl x3)] [] w = (if x3 < x2 then Lk P0 (M0 Ls) d m_Ci_isRound [.inr (.inr 107), .inl x3, .inl x1, .inl x2] w (fun r_ w_ => Lm P0 (M0 Ls) d m_Ci_howMany 100 [some (.inr (.inr 107)), some (.inl x1), some (.inl x2), some (.inl x3)] (r_.toList ++ []) w_) else Lm P0 (M0 Ls) d m_Ci_howMany 144 [some (.inr (.inr 107)), some (.inl x1), some (.inl x2), some (.inl x3)] [] w) := by
  rw [Lm_unf P0 (M0 Ls) sp_182 9]
  rfl
set_option maxRecDepth 100000 in
theorem E_182_100 (Ls d : Nat) (x1 x2 x3 y0 : Int) (w : AW) : Lm P0 (M0 Ls) d m_Ci_howMany 100 [some (.inr (.inr 107)), some (.inl x1), some (.inl x2), some (.inl x3)] [.inl y0] w = (if y0 = 0 then Lm P0 (M0 Ls) d m_Ci_howMany 138 [some (.inr (.inr 107)), some (.inl x1), some (.inl x2), some (.inl x3)] [] w else (if 0 ≤ x1 ∧ x1 < 9 then (if (rd w 107 x1) = 0 then Lm P0 (M0 Ls) d m_Ci_howMany 127 [some (.inr (.inr 107)), some (.inl x1), some (.inl x2), some (.inl x3)] [.inl x3, .inl x1, .inr (.inr 109)] w else (if 0 ≤ x1 ∧ x1 < 9 then Lm P0 (M0 Ls) d m_Ci_howMany 127 [some (.inr (.inr 107)), some (.inl x1), some (.inl x2), some (.inl x3)] [.inl (rd w 108 x1), .inl x1, .inr (.inr 109)] w else none)) else none)) := by
  rw [Lm_unf P0 (M0 Ls) sp_182 15]
  rfl
set_option maxRecDepth 100000 in
theorem E_182_127 (Ls d : Nat) (x1 x2 x3 y0 y1 : Int) (w : AW) : Lm P0 (M0 Ls) d m_Ci_howMany 127 [some (.inr (.inr 107)), some (.inl x1), some (.inl x2), some (.inl x3)] [.inl y0, .inl y1, .inr (.inr 109)] w = (if 0 ≤ y1 ∧ y1 < 9 then (if 0 ≤ x1 ∧ x1 < 9 then (if 0 ≤ x1 ∧ x1 < 9 then Lm P0 (M0 Ls) d m_Ci_howMany 138 [some (.inr (.inr 107)), some (.inl x1), some (.inl x2), some (.inl x3)] [] (wC (wC w 108 y1 y0) 107 x1 (w32 ((rd (wC w 108 y1 y0) 107 x1) + 1))) else none) else none) else none) := by
  rw [Lm_unf P0 (M0 Ls) sp_182 11]
  rfl
set_option maxRecDepth 100000 in
theorem E_182_138 (Ls d : Nat) (x1 x2 x3 : Int) (w : AW) : Lm P0 (M0 Ls) d m_Ci_howMany 138 [some (.inr (.inr 107)), some (.inl x1), some (.inl x2), some (.inl x3)] [] w = Lm P0 (M0 Ls) d m_Ci_howMany 88 [some (.inr (.inr 107)), some (.inl x1), some (.inl x2), some (.inl (w32 (x3 + 1)))] [] w := by
  rw [Lm_unf P0 (M0 Ls) sp_182 4]
  rfl
set_option maxRecDepth 100000 in
theorem E_182_144 (Ls d : Nat) (x1 : Int) (u2 u3 : Option AV) (w : AW) : Lm P0 (M0 Ls) d m_Ci_howMany 144 [some (.inr (.inr 107)), some (.inl x1), u2, u3] [] w = (if 0 ≤ x1 ∧ x1 < 9 then some (some (.inl (rd w 107 x1)), w) else none) := by
  rw [Lm_unf P0 (M0 Ls) sp_182 6]
  rfl
def sp_183 : Nat → Bool := fun q => [0, 20, 37].contains q
set_option maxRecDepth 100000 in
theorem E_183_0 (Ls d : Nat) (p1 p2 : Int) (w : AW) : Lm P0 (M0 Ls) d m_Ci_noteOfFirst 0 [some (.inr (.inr 107)), some (.inl p1), some (.inl p2)] [] w = (if p1 < 1 then Lm P0 (M0 Ls) d m_Ci_noteOfFirst 20 [some (.inr (.inr 107)), some (.inl p1), some (.inl p2)] [] w else (if 8 < p1 then Lm P0 (M0 Ls) d m_Ci_noteOfFirst 20 [some (.inr (.inr 107)), some (.inl p1), some (.inl p2)] [] w else (if p2 < 0 then Lm P0 (M0 Ls) d m_Ci_noteOfFirst 20 [some (.inr (.inr 107)), some (.inl p1), some (.inl p2)] [] w else (if p2 < p1 then (if 0 ≤ p1 ∧ p1 < 9 then Lk P0 (M0 Ls) d m_Ci_rowsOf [.inr (.inr 107), .inl (w32 ((w32 (p1 - 1)) - p2))] w (fun r_ w_ => Lm P0 (M0 Ls) d m_Ci_noteOfFirst 37 [some (.inr (.inr 107)), some (.inl p1), some (.inl p2)] (r_.toList ++ [.inl (rd w 108 p1)]) w_) else none) else Lm P0 (M0 Ls) d m_Ci_noteOfFirst 20 [some (.inr (.inr 107)), some (.inl p1), some (.inl p2)] [] w)))) := by
  rw [Lm_unf P0 (M0 Ls) sp_183 23]
  rfl
set_option maxRecDepth 100000 in
theorem E_183_20 (Ls d : Nat) (x1 x2 : Int) (w : AW) : Lm P0 (M0 Ls) d m_Ci_noteOfFirst 20 [some (.inr (.inr 107)), some (.inl x1), some (.inl x2)] [] w = some (some (.inl (-1)), w) := by
  rw [Lm_unf P0 (M0 Ls) sp_183 3]
  rfl
set_option maxRecDepth 100000 in
theorem E_183_37 (Ls d : Nat) (x1 x2 y0 y1 : Int) (w : AW) : Lm P0 (M0 Ls) d m_Ci_noteOfFirst 37 [some (.inr (.inr 107)), some (.inl x1), some (.inl x2)] [.inl y0, .inl y1] w = if y0 = 0 then none else if (rd w 57 0) = 0 then none else some (some (.inl (Int.tmod (w32 (Int.tdiv y1 y0)) (rd w 57 0))), w) := by
  rw [Lm_unf P0 (M0 Ls) sp_183 7]
  rfl
def sp_184 : Nat → Bool := fun q => [0, 16, 34, 40, 45].contains q
set_option maxRecDepth 100000 in
theorem E_184_0 (Ls d : Nat) (p1 : Int) (w : AW) : Lm P0 (M0 Ls) d m_Ci_makeRows 0 [some (.inr (.inr 107)), some (.inl p1)] [] w = (if (rd w 106 5) = 0 then Lm P0 (M0 Ls) d m_Ci_makeRows 16 [some (.inr (.inr 107)), some (.inl p1)] [] w else (if 0 < (rd w 106 5) then (if 0 < (rd w 106 5) then (if 100 ≤ (shv (M0 Ls) w (adr (rd w 106 5))).1 ∧ (shv (M0 Ls) w (adr (rd w 106 5))).1 ≤ 112 then (if ((shv (M0 Ls) w (adr (rd w 106 5))).2 : Int) < p1 then Lm P0 (M0 Ls) d m_Ci_makeRows 16 [some (.inr (.inr 107)), some (.inl p1)] [] w else Lm P0 (M0 Ls) d m_Ci_makeRows 45 [some (.inr (.inr 107)), some (.inl p1)] [] w) else none) else none) else none)) := by
  rw [Lm_unf P0 (M0 Ls) sp_184 10]
  rfl
set_option maxRecDepth 100000 in
theorem E_184_16 (Ls d : Nat) (x1 : Int) (w : AW) : Lm P0 (M0 Ls) d m_Ci_makeRows 16 [some (.inr (.inr 107)), some (.inl x1)] [] w = (if (rd w 106 5) = 0 then Lm P0 (M0 Ls) d m_Ci_makeRows 34 [some (.inr (.inr 107)), some (.inl x1)] [.inl 0, .inl x1, .inr (.inr 107)] w else (if 0 < (rd w 106 5) then (if 0 < (rd w 106 5) then (if 100 ≤ (shv (M0 Ls) w (adr (rd w 106 5))).1 ∧ (shv (M0 Ls) w (adr (rd w 106 5))).1 ≤ 112 then Lm P0 (M0 Ls) d m_Ci_makeRows 34 [some (.inr (.inr 107)), some (.inl x1)] [.inl ((shv (M0 Ls) w (adr (rd w 106 5))).2 : Int), .inl x1, .inr (.inr 107)] w else none) else none) else none)) := by
  rw [Lm_unf P0 (M0 Ls) sp_184 10]
  rfl
set_option maxRecDepth 100000 in
theorem E_184_34 (Ls d : Nat) (x1 y0 y1 : Int) (w : AW) : Lm P0 (M0 Ls) d m_Ci_makeRows 34 [some (.inr (.inr 107)), some (.inl x1)] [.inl y0, .inl y1, .inr (.inr 107)] w = Lk P0 (M0 Ls) d m_E_roomFor [.inl y1, .inl y0, .inl 20000] w (fun r_ w_ => Lm P0 (M0 Ls) d m_Ci_makeRows 40 [some (.inr (.inr 107)), some (.inl x1)] (r_.toList ++ [.inr (.inr 107)]) w_) := by
  rw [Lm_unf P0 (M0 Ls) sp_184 3]
  rfl
set_option maxRecDepth 100000 in
theorem E_184_40 (Ls d : Nat) (x1 y0 : Int) (w : AW) : Lm P0 (M0 Ls) d m_Ci_makeRows 40 [some (.inr (.inr 107)), some (.inl x1)] [.inl y0, .inr (.inr 107)] w = (if 0 ≤ y0 ∧ y0 ≤ 1000000 then Lm P0 (M0 Ls) d m_Ci_makeRows 45 [some (.inr (.inr 107)), some (.inl x1)] [] (wC (alloc w 102 (Int.toNat y0)) 106 5 ((w.1 : Int) + 1)) else none) := by
  rw [Lm_unf P0 (M0 Ls) sp_184 4]
  rfl
set_option maxRecDepth 100000 in
theorem E_184_45 (Ls d : Nat) (x1 : Int) (w : AW) : Lm P0 (M0 Ls) d m_Ci_makeRows 45 [some (.inr (.inr 107)), some (.inl x1)] [] w = some (none, w) := by
  rw [Lm_unf P0 (M0 Ls) sp_184 2]
  rfl
def sp_185 : Nat → Bool := fun q => [0, 4, 32].contains q
set_option maxRecDepth 100000 in
theorem E_185_0 (Ls d : Nat) (p1 : Int) (w : AW) : Lm P0 (M0 Ls) d m_Ci_rowsOf 0 [some (.inr (.inr 107)), some (.inl p1), none, none] [] w = Lm P0 (M0 Ls) d m_Ci_rowsOf 4 [some (.inr (.inr 107)), some (.inl p1), some (.inl 1), some (.inl 0)] [] w := by
  rw [Lm_unf P0 (M0 Ls) sp_185 6]
  rfl
set_option maxRecDepth 100000 in
theorem E_185_4 (Ls d : Nat) (x1 x2 x3 : Int) (w : AW) : Lm P0 (M0 Ls) d m_Ci_rowsOf 4 [some (.inr (.inr 107)), some (.inl x1), some (.inl x2), some (.inl x3)] [] w = (if x3 < x1 then (if 20000 < x2 then Lm P0 (M0 Ls) d m_Ci_rowsOf 32 [some (.inr (.inr 107)), some (.inl x1), some (.inl x2), some (.inl x3)] [] w else Lm P0 (M0 Ls) d m_Ci_rowsOf 4 [some (.inr (.inr 107)), some (.inl x1), some (.inl (w32 (x2 * (rd w 57 0)))), some (.inl (w32 (x3 + 1)))] [] w) else Lm P0 (M0 Ls) d m_Ci_rowsOf 32 [some (.inr (.inr 107)), some (.inl x1), some (.inl x2), some (.inl x3)] [] w) := by
  rw [Lm_unf P0 (M0 Ls) sp_185 16]
  rfl
set_option maxRecDepth 100000 in
theorem E_185_32 (Ls d : Nat) (x1 x2 x3 : Int) (w : AW) : Lm P0 (M0 Ls) d m_Ci_rowsOf 32 [some (.inr (.inr 107)), some (.inl x1), some (.inl x2), some (.inl x3)] [] w = some (some (.inl x2), w) := by
  rw [Lm_unf P0 (M0 Ls) sp_185 3]
  rfl
def sp_186 : Nat → Bool := fun q => [0, 11, 26, 34, 53, 72, 77, 89, 99].contains q
set_option maxRecDepth 100000 in
theorem E_186_0 (Ls d : Nat) (p1 p2 p3 : Int) (w : AW) : Lm P0 (M0 Ls) d m_Ci_isRound 0 [some (.inr (.inr 107)), some (.inl p1), some (.inl p2), some (.inl p3), none, none, none, none, none, none, none] [] w = Lk P0 (M0 Ls) d m_Ci_commonDivisor [.inl p2, .inl (rd w 57 1)] w (fun r_ w_ => Lm P0 (M0 Ls) d m_Ci_isRound 11 [some (.inr (.inr 107)), some (.inl p1), some (.inl p2), some (.inl p3), none, none, none, none, none, none, none] (r_.toList ++ []) w_) := by
  rw [Lm_unf P0 (M0 Ls) sp_186 6]
  rfl
set_option maxRecDepth 100000 in
theorem E_186_11 (Ls d : Nat) (x1 x2 x3 y0 : Int) (w : AW) : Lm P0 (M0 Ls) d m_Ci_isRound 11 [some (.inr (.inr 107)), some (.inl x1), some (.inl x2), some (.inl x3), none, none, none, none, none, none, none] [.inl y0] w = if (rd w 57 0) = 0 then none else Lk P0 (M0 Ls) d m_Math_max [.inl 1, .inl (w32 (Int.tdiv x3 (rd w 57 0)))] w (fun r_ w_ => Lm P0 (M0 Ls) d m_Ci_isRound 26 [some (.inr (.inr 107)), some (.inl x1), some (.inl x2), some (.inl x3), some (.inl y0), none, none, none, none, none, none] (r_.toList ++ []) w_) := by
  rw [Lm_unf P0 (M0 Ls) sp_186 9]
  rfl
set_option maxRecDepth 100000 in
theorem E_186_26 (Ls d : Nat) (x1 x2 x3 x4 y0 : Int) (w : AW) : Lm P0 (M0 Ls) d m_Ci_isRound 26 [some (.inr (.inr 107)), some (.inl x1), some (.inl x2), some (.inl x3), some (.inl x4), none, none, none, none, none, none] [.inl y0] w = Lm P0 (M0 Ls) d m_Ci_isRound 34 [some (.inr (.inr 107)), some (.inl x1), some (.inl x2), some (.inl x3), some (.inl x4), some (.inl y0), some (.inl x1), some (.inl 0), none, none, none] [] w := by
  rw [Lm_unf P0 (M0 Ls) sp_186 7]
  rfl
set_option maxRecDepth 100000 in
theorem E_186_34 (Ls d : Nat) (x1 x2 x3 x4 x5 x6 x7 : Int) (u8 u9 u10 : Option AV) (w : AW) : Lm P0 (M0 Ls) d m_Ci_isRound 34 [some (.inr (.inr 107)), some (.inl x1), some (.inl x2), some (.inl x3), some (.inl x4), some (.inl x5), some (.inl x6), some (.inl x7), u8, u9, u10] [] w = (if x7 < x2 then if x4 = 0 then none else (if (Int.tmod x7 x4) = 0 then Lm P0 (M0 Ls) d m_Ci_isRound 53 [some (.inr (.inr 107)), some (.inl x1), some (.inl x2), some (.inl x3), some (.inl x4), some (.inl x5), some (.inl x6), some (.inl x7), u8, u9, u10] [.inl 1] w else Lm P0 (M0 Ls) d m_Ci_isRound 53 [some (.inr (.inr 107)), some (.inl x1), some (.inl x2), some (.inl x3), some (.inl x4), some (.inl x5), some (.inl x6), some (.inl x7), u8, u9, u10] [.inl 0] w) else some (some (.inl 1), w)) := by
  rw [Lm_unf P0 (M0 Ls) sp_186 11]
  rfl
set_option maxRecDepth 100000 in
theorem E_186_53 (Ls d : Nat) (x1 x2 x3 x4 x5 x6 x7 y0 : Int) (u8 u9 u10 : Option AV) (w : AW) : Lm P0 (M0 Ls) d m_Ci_isRound 53 [some (.inr (.inr 107)), some (.inl x1), some (.inl x2), some (.inl x3), some (.inl x4), some (.inl x5), some (.inl x6), some (.inl x7), u8, u9, u10] [.inl y0] w = (if y0 = 0 then Lm P0 (M0 Ls) d m_Ci_isRound 72 [some (.inr (.inr 107)), some (.inl x1), some (.inl x2), some (.inl x3), some (.inl x4), some (.inl x5), some (.inl x6), some (.inl x7), some (.inl y0), u9, u10] [] w else (if x4 < (rd w 57 1) then Lm P0 (M0 Ls) d m_Ci_isRound 72 [some (.inr (.inr 107)), some (.inl x1), some (.inl x2), some (.inl x3), some (.inl x4), some (.inl x5), some (.inl x6), some (.inl x7), some (.inl y0), u9, u10] [] w else Lm P0 (M0 Ls) d m_Ci_isRound 77 [some (.inr (.inr 107)), some (.inl x1), some (.inl x2), some (.inl x3), some (.inl x4), some (.inl x5), some (.inl x6), some (.inl x7), some (.inl y0), u9, u10] [.inl 0] w)) := by
  rw [Lm_unf P0 (M0 Ls) sp_186 11]
  rfl
set_option maxRecDepth 100000 in
theorem E_186_72 (Ls d : Nat) (x1 x2 x3 x4 x5 x6 x7 x8 : Int) (u9 u10 : Option AV) (w : AW) : Lm P0 (M0 Ls) d m_Ci_isRound 72 [some (.inr (.inr 107)), some (.inl x1), some (.inl x2), some (.inl x3), some (.inl x4), some (.inl x5), some (.inl x6), some (.inl x7), some (.inl x8), u9, u10] [] w = Lm P0 (M0 Ls) d m_Ci_isRound 77 [some (.inr (.inr 107)), some (.inl x1), some (.inl x2), some (.inl x3), some (.inl x4), some (.inl x5), some (.inl x6), some (.inl x7), some (.inl x8), u9, u10] [.inl 1] w := by
  rw [Lm_unf P0 (M0 Ls) sp_186 4]
  rfl
set_option maxRecDepth 100000 in
theorem E_186_77 (Ls d : Nat) (x1 x2 x3 x4 x5 x6 x7 x8 y0 : Int) (u9 u10 : Option AV) (w : AW) : Lm P0 (M0 Ls) d m_Ci_isRound 77 [some (.inr (.inr 107)), some (.inl x1), some (.inl x2), some (.inl x3), some (.inl x4), some (.inl x5), some (.inl x6), some (.inl x7), some (.inl x8), u9, u10] [.inl y0] w = (if x8 = 0 then Lm P0 (M0 Ls) d m_Ci_isRound 89 [some (.inr (.inr 107)), some (.inl x1), some (.inl x2), some (.inl x3), some (.inl x4), some (.inl x5), some (.inl x6), some (.inl x7), some (.inl x8), some (.inl y0), u10] [.inl 0] w else Lm P0 (M0 Ls) d m_Ci_isRound 89 [some (.inr (.inr 107)), some (.inl x1), some (.inl x2), some (.inl x3), some (.inl x4), some (.inl x5), some (.inl x6), some (.inl x7), some (.inl x8), some (.inl y0), u10] [.inl 2] w) := by
  rw [Lm_unf P0 (M0 Ls) sp_186 7]
  rfl
set_option maxRecDepth 100000 in
theorem E_186_89 (Ls d : Nat) (x1 x2 x3 x4 x5 x6 x7 x8 x9 y0 : Int) (u10 : Option AV) (w : AW) : Lm P0 (M0 Ls) d m_Ci_isRound 89 [some (.inr (.inr 107)), some (.inl x1), some (.inl x2), some (.inl x3), some (.inl x4), some (.inl x5), some (.inl x6), some (.inl x7), some (.inl x8), some (.inl x9), u10] [.inl y0] w = (if x9 = 0 then Lm P0 (M0 Ls) d m_Ci_isRound 99 [some (.inr (.inr 107)), some (.inl x1), some (.inl x2), some (.inl x3), some (.inl x4), some (.inl x5), some (.inl x6), some (.inl x7), some (.inl x8), some (.inl x9), u10] [.inl 0, .inl y0] w else Lm P0 (M0 Ls) d m_Ci_isRound 99 [some (.inr (.inr 107)), some (.inl x1), some (.inl x2), some (.inl x3), some (.inl x4), some (.inl x5), some (.inl x6), some (.inl x7), some (.inl x8), some (.inl x9), u10] [.inl 1, .inl y0] w) := by
  rw [Lm_unf P0 (M0 Ls) sp_186 6]
  rfl
set_option maxRecDepth 100000 in
theorem E_186_99 (Ls d : Nat) (x1 x2 x3 x4 x5 x6 x7 x8 x9 y0 y1 : Int) (u10 : Option AV) (w : AW) : Lm P0 (M0 Ls) d m_Ci_isRound 99 [some (.inr (.inr 107)), some (.inl x1), some (.inl x2), some (.inl x3), some (.inl x4), some (.inl x5), some (.inl x6), some (.inl x7), some (.inl x8), some (.inl x9), u10] [.inl y0, .inl y1] w = (arN (M0 Ls) w (rd w 106 5) 102 103 112 none (fun a1 n1 => (if (0 : Int) ≤ x6 ∧ x6 < (n1 : Int) then (if (i32 (fun x y => x &&& y) (rd w a1 x6) (w32 (y1 + y0))) = (w32 (y1 + y0)) then if x5 = 0 then none else if x5 = 0 then none else Lm P0 (M0 Ls) d m_Ci_isRound 34 [some (.inr (.inr 107)), some (.inl x1), some (.inl x2), some (.inl x3), some (.inl x4), some (.inl x5), some (.inl (w32 ((w32 ((Int.tmod x6 x5) * (rd w 57 0))) + (w32 (Int.tdiv x6 x5))))), some (.inl (w32 (x7 + 1))), some (.inl x8), some (.inl x9), some (.inl (w32 (y1 + y0)))] [] w else some (some (.inl 0), w)) else none))) := by
  rw [Lm_unf P0 (M0 Ls) sp_186 26]
  rfl
def sp_187 : Nat → Bool := fun q => [0, 4, 30, 31, 38].contains q
set_option maxRecDepth 100000 in
theorem E_187_0 (Ls d : Nat) (p1 p2 : Int) (w : AW) : Lm P0 (M0 Ls) d m_Ci_commonDivisor 0 [some (.inl p1), some (.inl p2), none, none] [] w = Lm P0 (M0 Ls) d m_Ci_commonDivisor 4 [some (.inl p1), some (.inl p2), some (.inl 1), some (.inl 2)] [] w := by
  rw [Lm_unf P0 (M0 Ls) sp_187 6]
  rfl
set_option maxRecDepth 100000 in
theorem E_187_4 (Ls d : Nat) (x0 x1 x2 x3 : Int) (w : AW) : Lm P0 (M0 Ls) d m_Ci_commonDivisor 4 [some (.inl x0), some (.inl x1), some (.inl x2), some (.inl x3)] [] w = (if x0 < x3 then Lm P0 (M0 Ls) d m_Ci_commonDivisor 38 [some (.inl x0), some (.inl x1), some (.inl x2), some (.inl x3)] [] w else (if x1 < x3 then Lm P0 (M0 Ls) d m_Ci_commonDivisor 38 [some (.inl x0), some (.inl x1), some (.inl x2), some (.inl x3)] [] w else if x3 = 0 then none else (if (Int.tmod x0 x3) = 0 then if x3 = 0 then none else (if (Int.tmod x1 x3) = 0 then Lm P0 (M0 Ls) d m_Ci_commonDivisor 31 [some (.inl x0), some (.inl x1), some (.inl x2), some (.inl x3)] [.inl x3] w else Lm P0 (M0 Ls) d m_Ci_commonDivisor 30 [some (.inl x0), some (.inl x1), some (.inl x2), some (.inl x3)] [] w) else Lm P0 (M0 Ls) d m_Ci_commonDivisor 30 [some (.inl x0), some (.inl x1), some (.inl x2), some (.inl x3)] [] w))) := by
  rw [Lm_unf P0 (M0 Ls) sp_187 18]
  rfl
set_option maxRecDepth 100000 in
theorem E_187_30 (Ls d : Nat) (x0 x1 x2 x3 : Int) (w : AW) : Lm P0 (M0 Ls) d m_Ci_commonDivisor 30 [some (.inl x0), some (.inl x1), some (.inl x2), some (.inl x3)] [] w = Lm P0 (M0 Ls) d m_Ci_commonDivisor 31 [some (.inl x0), some (.inl x1), some (.inl x2), some (.inl x3)] [.inl x2] w := by
  rw [Lm_unf P0 (M0 Ls) sp_187 3]
  rfl
set_option maxRecDepth 100000 in
theorem E_187_31 (Ls d : Nat) (x0 x1 x2 x3 y0 : Int) (w : AW) : Lm P0 (M0 Ls) d m_Ci_commonDivisor 31 [some (.inl x0), some (.inl x1), some (.inl x2), some (.inl x3)] [.inl y0] w = Lm P0 (M0 Ls) d m_Ci_commonDivisor 4 [some (.inl x0), some (.inl x1), some (.inl y0), some (.inl (w32 (x3 + 1)))] [] w := by
  rw [Lm_unf P0 (M0 Ls) sp_187 5]
  rfl
set_option maxRecDepth 100000 in
theorem E_187_38 (Ls d : Nat) (x0 x1 x2 x3 : Int) (w : AW) : Lm P0 (M0 Ls) d m_Ci_commonDivisor 38 [some (.inl x0), some (.inl x1), some (.inl x2), some (.inl x3)] [] w = some (some (.inl x2), w) := by
  rw [Lm_unf P0 (M0 Ls) sp_187 3]
  rfl
def sp_188 : Nat → Bool := fun q => [0, 18, 27].contains q
set_option maxRecDepth 100000 in
theorem E_188_0 (Ls d : Nat) (p1 : Int) (w : AW) : Lm P0 (M0 Ls) d m_Ci_keeps 0 [some (.inr (.inr 107)), some (.inl p1)] [] w = Lk P0 (M0 Ls) d m_Judge_firstFault [.inr (.inr 88), .inl p1, .inl (w32 (1 + (rd w 57 2))), .inl 1] w (fun r_ w_ => Lm P0 (M0 Ls) d m_Ci_keeps 18 [some (.inr (.inr 107)), some (.inl p1)] (r_.toList ++ []) w_) := by
  rw [Lm_unf P0 (M0 Ls) sp_188 11]
  rfl
set_option maxRecDepth 100000 in
theorem E_188_18 (Ls d : Nat) (x1 y0 : Int) (w : AW) : Lm P0 (M0 Ls) d m_Ci_keeps 18 [some (.inr (.inr 107)), some (.inl x1)] [.inl y0] w = (if y0 = (-1) then Lm P0 (M0 Ls) d m_Ci_keeps 27 [some (.inr (.inr 107)), some (.inl x1)] [.inl 1] w else Lm P0 (M0 Ls) d m_Ci_keeps 27 [some (.inr (.inr 107)), some (.inl x1)] [.inl 0] w) := by
  rw [Lm_unf P0 (M0 Ls) sp_188 6]
  rfl
set_option maxRecDepth 100000 in
theorem E_188_27 (Ls d : Nat) (x1 y0 : Int) (w : AW) : Lm P0 (M0 Ls) d m_Ci_keeps 27 [some (.inr (.inr 107)), some (.inl x1)] [.inl y0] w = some (some (.inl y0), w) := by
  rw [Lm_unf P0 (M0 Ls) sp_188 2]
  rfl
def sp_189 : Nat → Bool := fun q => [0, 7, 79, 131, 135, 166, 170].contains q
set_option maxRecDepth 100000 in
theorem E_189_0 (Ls d : Nat) (p1 p2 : Int) (w : AW) : Lm P0 (M0 Ls) d m_Ci_layVoices 0 [some (.inr (.inr 107)), some (.inl p1), some (.inl p2), none, none, none] [] w = Lm P0 (M0 Ls) d m_Ci_layVoices 7 [some (.inr (.inr 107)), some (.inl p1), some (.inl p2), some (.inl p1), some (.inl (w32 (p2 - 1))), none] [] w := by
  rw [Lm_unf P0 (M0 Ls) sp_189 8]
  rfl
set_option maxRecDepth 100000 in
theorem E_189_7 (Ls d : Nat) (x1 x2 x3 x4 : Int) (w : AW) : Lm P0 (M0 Ls) d m_Ci_layVoices 7 [some (.inr (.inr 107)), some (.inl x1), some (.inl x2), some (.inl x3), some (.inl x4), none] [] w = (if x4 < 0 then (if 0 ≤ (w32 (x2 - 1)) ∧ (w32 (x2 - 1)) < 8 then Lm P0 (M0 Ls) d m_Ci_layVoices 79 [some (.inr (.inr 107)), some (.inl x1), some (.inl x2), some (.inl x3), some (.inl 0), none] [] (wC (wC w 88 0 (rd w 109 0)) 89 0 (rd (wC w 88 0 (rd w 109 0)) 109 (w32 (x2 - 1)))) else none) else if (rd w 57 0) = 0 then none else (if 0 ≤ x4 ∧ x4 < 8 then if (rd (wC w 109 x4 (Int.tmod x3 (rd w 57 0))) 57 0) = 0 then none else Lm P0 (M0 Ls) d m_Ci_layVoices 7 [some (.inr (.inr 107)), some (.inl x1), some (.inl x2), some (.inl (w32 (Int.tdiv x3 (rd (wC w 109 x4 (Int.tmod x3 (rd w 57 0))) 57 0)))), some (.inl (w32 (x4 + (-1)))), none] [] (wC w 109 x4 (Int.tmod x3 (rd w 57 0))) else none)) := by
  rw [Lm_unf P0 (M0 Ls) sp_189 26]
  rfl
set_option maxRecDepth 100000 in
theorem E_189_79 (Ls d : Nat) (x1 x2 x3 x4 : Int) (u5 : Option AV) (w : AW) : Lm P0 (M0 Ls) d m_Ci_layVoices 79 [some (.inr (.inr 107)), some (.inl x1), some (.inl x2), some (.inl x3), some (.inl x4), u5] [] w = (if x4 < (rd w 57 2) then (if 0 ≤ x4 ∧ x4 < 8 then Lk P0 (M0 Ls) d m_Math_floorMod [.inl (w32 (-(rd w 58 x4))), .inl x2] w (fun r_ w_ => Lm P0 (M0 Ls) d m_Ci_layVoices 131 [some (.inr (.inr 107)), some (.inl x1), some (.inl x2), some (.inl x3), some (.inl x4), some (.inl (rd w 58 x4))] (r_.toList ++ [.inr (.inr 110), .inl x4, .inr (.inr 58), .inl (w32 (1 + x4)), .inr (.inr 89)]) w_) else none) else some (none, w)) := by
  rw [Lm_unf P0 (M0 Ls) sp_189 27]
  rfl
set_option maxRecDepth 100000 in
theorem E_189_131 (Ls d : Nat) (x1 x2 x3 x4 x5 y0 y2 y4 : Int) (w : AW) : Lm P0 (M0 Ls) d m_Ci_layVoices 131 [some (.inr (.inr 107)), some (.inl x1), some (.inl x2), some (.inl x3), some (.inl x4), some (.inl x5)] [.inl y0, .inr (.inr 110), .inl y2, .inr (.inr 58), .inl y4, .inr (.inr 89)] w = (if 0 ≤ y0 ∧ y0 < 8 then Lk P0 (M0 Ls) d m_Rock_givenBack [.inr (.inr 58), .inl y2, .inl (rd w 109 y0)] w (fun r_ w_ => Lm P0 (M0 Ls) d m_Ci_layVoices 135 [some (.inr (.inr 107)), some (.inl x1), some (.inl x2), some (.inl x3), some (.inl x4), some (.inl x5)] (r_.toList ++ [.inl y4, .inr (.inr 89)]) w_) else none) := by
  rw [Lm_unf P0 (M0 Ls) sp_189 3]
  rfl
set_option maxRecDepth 100000 in
theorem E_189_135 (Ls d : Nat) (x1 x2 x3 x4 x5 y0 y1 : Int) (w : AW) : Lm P0 (M0 Ls) d m_Ci_layVoices 135 [some (.inr (.inr 107)), some (.inl x1), some (.inl x2), some (.inl x3), some (.inl x4), some (.inl x5)] [.inl y0, .inl y1, .inr (.inr 89)] w = (if 0 ≤ y1 ∧ y1 < 9 then Lk P0 (M0 Ls) d m_Math_floorMod [.inl (w32 ((w32 (-x5)) - 1)), .inl x2] (wC w 88 y1 y0) (fun r_ w_ => Lm P0 (M0 Ls) d m_Ci_layVoices 166 [some (.inr (.inr 107)), some (.inl x1), some (.inl x2), some (.inl x3), some (.inl x4), some (.inl x5)] (r_.toList ++ [.inr (.inr 110), .inl x4, .inr (.inr 58), .inl (w32 (1 + x4)), .inr (.inr 90)]) w_) else none) := by
  rw [Lm_unf P0 (M0 Ls) sp_189 19]
  rfl
set_option maxRecDepth 100000 in
theorem E_189_166 (Ls d : Nat) (x1 x2 x3 x4 x5 y0 y2 y4 : Int) (w : AW) : Lm P0 (M0 Ls) d m_Ci_layVoices 166 [some (.inr (.inr 107)), some (.inl x1), some (.inl x2), some (.inl x3), some (.inl x4), some (.inl x5)] [.inl y0, .inr (.inr 110), .inl y2, .inr (.inr 58), .inl y4, .inr (.inr 90)] w = (if 0 ≤ y0 ∧ y0 < 8 then Lk P0 (M0 Ls) d m_Rock_givenBack [.inr (.inr 58), .inl y2, .inl (rd w 109 y0)] w (fun r_ w_ => Lm P0 (M0 Ls) d m_Ci_layVoices 170 [some (.inr (.inr 107)), some (.inl x1), some (.inl x2), some (.inl x3), some (.inl x4), some (.inl x5)] (r_.toList ++ [.inl y4, .inr (.inr 90)]) w_) else none) := by
  rw [Lm_unf P0 (M0 Ls) sp_189 3]
  rfl
set_option maxRecDepth 100000 in
theorem E_189_170 (Ls d : Nat) (x1 x2 x3 x4 x5 y0 y1 : Int) (w : AW) : Lm P0 (M0 Ls) d m_Ci_layVoices 170 [some (.inr (.inr 107)), some (.inl x1), some (.inl x2), some (.inl x3), some (.inl x4), some (.inl x5)] [.inl y0, .inl y1, .inr (.inr 90)] w = (if 0 ≤ y1 ∧ y1 < 9 then Lm P0 (M0 Ls) d m_Ci_layVoices 79 [some (.inr (.inr 107)), some (.inl x1), some (.inl x2), some (.inl x3), some (.inl (w32 (x4 + 1))), some (.inl x5)] [] (wC w 89 y1 y0) else none) := by
  rw [Lm_unf P0 (M0 Ls) sp_189 5]
  rfl
