def sp_273 : Nat → Bool := fun q => [0, 13, 20, 23, 29, 33, 39, 58, 68, 76, 94, 102, 107, 119, 126].contains q
set_option maxRecDepth 100000 in
theorem E_273_0 (Ls d : Nat) (p1 : Int) (w : AW) : Lm P0 (M0 Ls) d m_M_endless 0 [some (.inr (.inr 113)), some (.inl p1), none, none, none] [] w = Lk P0 (M0 Ls) d m_M_within [.inl p1, .inl 0, .inl 999] (wC w 112 0 0) (fun r_ w_ => Lm P0 (M0 Ls) d m_M_endless 13 [some (.inr (.inr 113)), some (.inl p1), none, none, none] (r_.toList ++ []) w_) := by
  rw [Lm_unf P0 (M0 Ls) sp_273 8]
  rfl
set_option maxRecDepth 100000 in
theorem E_273_13 (Ls d : Nat) (x1 y0 : Int) (w : AW) : Lm P0 (M0 Ls) d m_M_endless 13 [some (.inr (.inr 113)), some (.inl x1), none, none, none] [.inl y0] w = (if y0 = 0 then Lm P0 (M0 Ls) d m_M_endless 23 [some (.inr (.inr 113)), some (.inl x1), none, none, none] [] w else Lk P0 (M0 Ls) d m_M_findTables [.inr (.inr 113)] w (fun r_ w_ => Lm P0 (M0 Ls) d m_M_endless 20 [some (.inr (.inr 113)), some (.inl x1), none, none, none] (r_.toList ++ []) w_)) := by
  rw [Lm_unf P0 (M0 Ls) sp_273 4]
  rfl
set_option maxRecDepth 100000 in
theorem E_273_20 (Ls d : Nat) (x1 y0 : Int) (w : AW) : Lm P0 (M0 Ls) d m_M_endless 20 [some (.inr (.inr 113)), some (.inl x1), none, none, none] [.inl y0] w = (if y0 = 0 then Lm P0 (M0 Ls) d m_M_endless 23 [some (.inr (.inr 113)), some (.inl x1), none, none, none] [] w else Lk P0 (M0 Ls) d m_M_findEndless [.inr (.inr 113)] w (fun r_ w_ => Lm P0 (M0 Ls) d m_M_endless 29 [some (.inr (.inr 113)), some (.inl x1), none, none, none] (r_.toList ++ []) w_)) := by
  rw [Lm_unf P0 (M0 Ls) sp_273 4]
  rfl
set_option maxRecDepth 100000 in
theorem E_273_23 (Ls d : Nat) (x1 : Int) (w : AW) : Lm P0 (M0 Ls) d m_M_endless 23 [some (.inr (.inr 113)), some (.inl x1), none, none, none] [] w = some (some (.inl (-1)), w) := by
  rw [Lm_unf P0 (M0 Ls) sp_273 3]
  rfl
set_option maxRecDepth 100000 in
theorem E_273_29 (Ls d : Nat) (x1 : Int) (w : AW) : Lm P0 (M0 Ls) d m_M_endless 29 [some (.inr (.inr 113)), some (.inl x1), none, none, none] [] w = Lk P0 (M0 Ls) d m_M_silence [.inr (.inr 113)] w (fun r_ w_ => Lm P0 (M0 Ls) d m_M_endless 33 [some (.inr (.inr 113)), some (.inl x1), none, none, none] (r_.toList ++ []) w_) := by
  rw [Lm_unf P0 (M0 Ls) sp_273 3]
  rfl
set_option maxRecDepth 100000 in
theorem E_273_33 (Ls d : Nat) (x1 y0 : Int) (w : AW) : Lm P0 (M0 Ls) d m_M_endless 33 [some (.inr (.inr 113)), some (.inl x1), none, none, none] [.inl y0] w = Lm P0 (M0 Ls) d m_M_endless 39 [some (.inr (.inr 113)), some (.inl x1), some (.inl y0), some (.inl (-1)), some (.inl 0)] [] w := by
  rw [Lm_unf P0 (M0 Ls) sp_273 7]
  rfl
set_option maxRecDepth 100000 in
theorem E_273_39 (Ls d : Nat) (x1 x2 x3 x4 : Int) (w : AW) : Lm P0 (M0 Ls) d m_M_endless 39 [some (.inr (.inr 113)), some (.inl x1), some (.inl x2), some (.inl x3), some (.inl x4)] [] w = (if x1 < x4 then Lm P0 (M0 Ls) d m_M_endless 126 [some (.inr (.inr 113)), some (.inl x1), some (.inl x2), some (.inl x3), some (.inl x4)] [] w else Lk P0 (M0 Ls) d m_M_meter [.inr (.inr 113)] w (fun r_ w_ => Lm P0 (M0 Ls) d m_M_endless 58 [some (.inr (.inr 113)), some (.inl x1), some (.inl x2), some (.inl x3), some (.inl x4)] (r_.toList ++ [.inl x4, .inl 4096, .inr (.inr 132)]) w_)) := by
  rw [Lm_unf P0 (M0 Ls) sp_273 10]
  rfl
set_option maxRecDepth 100000 in
theorem E_273_58 (Ls d : Nat) (x1 x2 x3 x4 y0 y1 y2 : Int) (w : AW) : Lm P0 (M0 Ls) d m_M_endless 58 [some (.inr (.inr 113)), some (.inl x1), some (.inl x2), some (.inl x3), some (.inl x4)] [.inl y0, .inl y1, .inl y2, .inr (.inr 132)] w = if y0 = 0 then none else (if 0 ≤ (w32 ((w32 (y2 * (Int.tmod y1 y0))) + x2)) ∧ (w32 ((w32 (y2 * (Int.tmod y1 y0))) + x2)) < 32768 then (if (rd w 131 (w32 ((w32 (y2 * (Int.tmod y1 y0))) + x2))) = 0 then Lm P0 (M0 Ls) d m_M_endless 126 [some (.inr (.inr 113)), some (.inl x1), some (.inl x2), some (.inl x3), some (.inl x4)] [] w else Lm P0 (M0 Ls) d m_M_endless 68 [some (.inr (.inr 113)), some (.inl x1), some (.inl x2), some (.inl 0), some (.inl x4)] [] w) else none) := by
  rw [Lm_unf P0 (M0 Ls) sp_273 10]
  rfl
set_option maxRecDepth 100000 in
theorem E_273_68 (Ls d : Nat) (x1 x2 x3 x4 : Int) (w : AW) : Lm P0 (M0 Ls) d m_M_endless 68 [some (.inr (.inr 113)), some (.inl x1), some (.inl x2), some (.inl x3), some (.inl x4)] [] w = Lk P0 (M0 Ls) d m_M_isKept [.inr (.inr 113), .inl x4, .inl x2, .inl x3] w (fun r_ w_ => Lm P0 (M0 Ls) d m_M_endless 76 [some (.inr (.inr 113)), some (.inl x1), some (.inl x2), some (.inl x3), some (.inl x4)] (r_.toList ++ []) w_) := by
  rw [Lm_unf P0 (M0 Ls) sp_273 6]
  rfl
set_option maxRecDepth 100000 in
theorem E_273_76 (Ls d : Nat) (x1 x2 x3 x4 y0 : Int) (w : AW) : Lm P0 (M0 Ls) d m_M_endless 76 [some (.inr (.inr 113)), some (.inl x1), some (.inl x2), some (.inl x3), some (.inl x4)] [.inl y0] w = (if y0 = 0 then Lm P0 (M0 Ls) d m_M_endless 107 [some (.inr (.inr 113)), some (.inl x1), some (.inl x2), some (.inl x3), some (.inl x4)] [] w else Lk P0 (M0 Ls) d m_M_meter [.inr (.inr 113)] w (fun r_ w_ => Lm P0 (M0 Ls) d m_M_endless 94 [some (.inr (.inr 113)), some (.inl x1), some (.inl x2), some (.inl x3), some (.inl x4)] (r_.toList ++ [.inl (w32 (x4 + 1)), .inl 4096, .inr (.inr 132)]) w_)) := by
  rw [Lm_unf P0 (M0 Ls) sp_273 10]
  rfl
set_option maxRecDepth 100000 in
theorem E_273_94 (Ls d : Nat) (x1 x2 x3 x4 y0 y1 y2 : Int) (w : AW) : Lm P0 (M0 Ls) d m_M_endless 94 [some (.inr (.inr 113)), some (.inl x1), some (.inl x2), some (.inl x3), some (.inl x4)] [.inl y0, .inl y1, .inl y2, .inr (.inr 132)] w = if y0 = 0 then none else Lk P0 (M0 Ls) d m_M_laterState [.inr (.inr 113), .inl x2, .inl x3] w (fun r_ w_ => Lm P0 (M0 Ls) d m_M_endless 102 [some (.inr (.inr 113)), some (.inl x1), some (.inl x2), some (.inl x3), some (.inl x4)] (r_.toList ++ [.inl (w32 (y2 * (Int.tmod y1 y0))), .inr (.inr 132)]) w_) := by
  rw [Lm_unf P0 (M0 Ls) sp_273 7]
  rfl
set_option maxRecDepth 100000 in
theorem E_273_102 (Ls d : Nat) (x1 x2 x3 x4 y0 y1 : Int) (w : AW) : Lm P0 (M0 Ls) d m_M_endless 102 [some (.inr (.inr 113)), some (.inl x1), some (.inl x2), some (.inl x3), some (.inl x4)] [.inl y0, .inl y1, .inr (.inr 132)] w = (if 0 ≤ (w32 (y1 + y0)) ∧ (w32 (y1 + y0)) < 32768 then (if (rd w 131 (w32 (y1 + y0))) = 0 then Lm P0 (M0 Ls) d m_M_endless 107 [some (.inr (.inr 113)), some (.inl x1), some (.inl x2), some (.inl x3), some (.inl x4)] [] w else Lk P0 (M0 Ls) d m_M_laterState [.inr (.inr 113), .inl x2, .inl x3] w (fun r_ w_ => Lm P0 (M0 Ls) d m_M_endless 119 [some (.inr (.inr 113)), some (.inl x1), some (.inl x2), some (.inl x3), some (.inl x4)] (r_.toList ++ []) w_)) else none) := by
  rw [Lm_unf P0 (M0 Ls) sp_273 8]
  rfl
set_option maxRecDepth 100000 in
theorem E_273_107 (Ls d : Nat) (x1 x2 x3 x4 : Int) (w : AW) : Lm P0 (M0 Ls) d m_M_endless 107 [some (.inr (.inr 113)), some (.inl x1), some (.inl x2), some (.inl x3), some (.inl x4)] [] w = Lm P0 (M0 Ls) d m_M_endless 68 [some (.inr (.inr 113)), some (.inl x1), some (.inl x2), some (.inl (w32 (x3 + 1))), some (.inl x4)] [] w := by
  rw [Lm_unf P0 (M0 Ls) sp_273 4]
  rfl
set_option maxRecDepth 100000 in
theorem E_273_119 (Ls d : Nat) (x1 x2 x3 x4 y0 : Int) (w : AW) : Lm P0 (M0 Ls) d m_M_endless 119 [some (.inr (.inr 113)), some (.inl x1), some (.inl x2), some (.inl x3), some (.inl x4)] [.inl y0] w = Lm P0 (M0 Ls) d m_M_endless 39 [some (.inr (.inr 113)), some (.inl x1), some (.inl y0), some (.inl x3), some (.inl (w32 (x4 + 1)))] [] w := by
  rw [Lm_unf P0 (M0 Ls) sp_273 5]
  rfl
set_option maxRecDepth 100000 in
theorem E_273_126 (Ls d : Nat) (x1 x2 x3 x4 : Int) (w : AW) : Lm P0 (M0 Ls) d m_M_endless 126 [some (.inr (.inr 113)), some (.inl x1), some (.inl x2), some (.inl x3), some (.inl x4)] [] w = some (some (.inl x3), w) := by
  rw [Lm_unf P0 (M0 Ls) sp_273 3]
  rfl
def sp_274 : Nat → Bool := fun q => [0, 9, 18, 26, 34, 52, 60, 69, 74].contains q
set_option maxRecDepth 100000 in
theorem E_274_0 (Ls d : Nat) (w : AW) : Lm P0 (M0 Ls) d m_M_longest 0 [some (.inr (.inr 113)), none] [] w = Lk P0 (M0 Ls) d m_M_findTables [.inr (.inr 113)] (wC w 112 0 0) (fun r_ w_ => Lm P0 (M0 Ls) d m_M_longest 9 [some (.inr (.inr 113)), none] (r_.toList ++ []) w_) := by
  rw [Lm_unf P0 (M0 Ls) sp_274 6]
  rfl
set_option maxRecDepth 100000 in
theorem E_274_9 (Ls d : Nat) (y0 : Int) (w : AW) : Lm P0 (M0 Ls) d m_M_longest 9 [some (.inr (.inr 113)), none] [.inl y0] w = (if y0 = 0 then some (some (.inl (-1)), w) else Lk P0 (M0 Ls) d m_M_findEndless [.inr (.inr 113)] w (fun r_ w_ => Lm P0 (M0 Ls) d m_M_longest 18 [some (.inr (.inr 113)), none] (r_.toList ++ []) w_)) := by
  rw [Lm_unf P0 (M0 Ls) sp_274 4]
  rfl
set_option maxRecDepth 100000 in
theorem E_274_18 (Ls d : Nat) (w : AW) : Lm P0 (M0 Ls) d m_M_longest 18 [some (.inr (.inr 113)), none] [] w = Lk P0 (M0 Ls) d m_M_silence [.inr (.inr 113)] w (fun r_ w_ => Lm P0 (M0 Ls) d m_M_longest 26 [some (.inr (.inr 113)), none] (r_.toList ++ [.inr (.inr 132)]) w_) := by
  rw [Lm_unf P0 (M0 Ls) sp_274 5]
  rfl
set_option maxRecDepth 100000 in
theorem E_274_26 (Ls d : Nat) (y0 : Int) (w : AW) : Lm P0 (M0 Ls) d m_M_longest 26 [some (.inr (.inr 113)), none] [.inl y0, .inr (.inr 132)] w = (if 0 ≤ y0 ∧ y0 < 32768 then (if (rd w 131 y0) = 0 then Lm P0 (M0 Ls) d m_M_longest 34 [some (.inr (.inr 113)), some (.inl 0)] [] w else some (some (.inl (-1)), w)) else none) := by
  rw [Lm_unf P0 (M0 Ls) sp_274 6]
  rfl
set_option maxRecDepth 100000 in
theorem E_274_34 (Ls d : Nat) (x1 : Int) (w : AW) : Lm P0 (M0 Ls) d m_M_longest 34 [some (.inr (.inr 113)), some (.inl x1)] [] w = (if x1 < (rd w 112 31) then Lk P0 (M0 Ls) d m_M_silence [.inr (.inr 113)] w (fun r_ w_ => Lm P0 (M0 Ls) d m_M_longest 52 [some (.inr (.inr 113)), some (.inl x1)] (r_.toList ++ [.inl x1, .inl x1, .inr (.inr 133)]) w_) else Lm P0 (M0 Ls) d m_M_longest 69 [some (.inr (.inr 113)), some (.inl 0)] [] w) := by
  rw [Lm_unf P0 (M0 Ls) sp_274 11]
  rfl
set_option maxRecDepth 100000 in
theorem E_274_52 (Ls d : Nat) (x1 y0 y1 y2 : Int) (w : AW) : Lm P0 (M0 Ls) d m_M_longest 52 [some (.inr (.inr 113)), some (.inl x1)] [.inl y0, .inl y1, .inl y2, .inr (.inr 133)] w = (if y1 = y0 then Lm P0 (M0 Ls) d m_M_longest 60 [some (.inr (.inr 113)), some (.inl x1)] [.inl 1, .inl y2, .inr (.inr 133)] w else Lm P0 (M0 Ls) d m_M_longest 60 [some (.inr (.inr 113)), some (.inl x1)] [.inl 0, .inl y2, .inr (.inr 133)] w) := by
  rw [Lm_unf P0 (M0 Ls) sp_274 5]
  rfl
set_option maxRecDepth 100000 in
theorem E_274_60 (Ls d : Nat) (x1 y0 y1 : Int) (w : AW) : Lm P0 (M0 Ls) d m_M_longest 60 [some (.inr (.inr 113)), some (.inl x1)] [.inl y0, .inl y1, .inr (.inr 133)] w = (if 0 ≤ y1 ∧ y1 < 4096 then (if y0 = 0 ∨ y0 = 1 then Lm P0 (M0 Ls) d m_M_longest 34 [some (.inr (.inr 113)), some (.inl (w32 (x1 + 1)))] [] (wC w 132 y1 y0) else none) else none) := by
  rw [Lm_unf P0 (M0 Ls) sp_274 5]
  rfl
set_option maxRecDepth 100000 in
theorem E_274_69 (Ls d : Nat) (x1 : Int) (w : AW) : Lm P0 (M0 Ls) d m_M_longest 69 [some (.inr (.inr 113)), some (.inl x1)] [] w = Lk P0 (M0 Ls) d m_M_stepsOn [.inr (.inr 113), .inl x1] w (fun r_ w_ => Lm P0 (M0 Ls) d m_M_longest 74 [some (.inr (.inr 113)), some (.inl x1)] (r_.toList ++ []) w_) := by
  rw [Lm_unf P0 (M0 Ls) sp_274 4]
  rfl
set_option maxRecDepth 100000 in
theorem E_274_74 (Ls d : Nat) (x1 y0 : Int) (w : AW) : Lm P0 (M0 Ls) d m_M_longest 74 [some (.inr (.inr 113)), some (.inl x1)] [.inl y0] w = (if y0 = 0 then some (some (.inl x1), w) else Lm P0 (M0 Ls) d m_M_longest 69 [some (.inr (.inr 113)), some (.inl (w32 (x1 + 1)))] [] w) := by
  rw [Lm_unf P0 (M0 Ls) sp_274 5]
  rfl
def sp_275 : Nat → Bool := fun q => [0, 4, 27, 38, 66, 80, 84, 90, 98].contains q
set_option maxRecDepth 100000 in
theorem E_275_0 (Ls d : Nat) (p1 : Int) (w : AW) : Lm P0 (M0 Ls) d m_M_stepsOn 0 [some (.inr (.inr 113)), some (.inl p1), none, none, none] [] w = Lm P0 (M0 Ls) d m_M_stepsOn 4 [some (.inr (.inr 113)), some (.inl p1), some (.inl 0), some (.inl 0), none] [] w := by
  rw [Lm_unf P0 (M0 Ls) sp_275 6]
  rfl
set_option maxRecDepth 100000 in
theorem E_275_4 (Ls d : Nat) (x1 x2 x3 : Int) (w : AW) : Lm P0 (M0 Ls) d m_M_stepsOn 4 [some (.inr (.inr 113)), some (.inl x1), some (.inl x2), some (.inl x3), none] [] w = (if x3 < (rd w 112 31) then (if 0 ≤ x3 ∧ x3 < 4096 then Lm P0 (M0 Ls) d m_M_stepsOn 4 [some (.inr (.inr 113)), some (.inl x1), some (.inl x2), some (.inl (w32 (x3 + 1))), none] [] (wC w 133 x3 0) else none) else Lm P0 (M0 Ls) d m_M_stepsOn 27 [some (.inr (.inr 113)), some (.inl x1), some (.inl x2), some (.inl 0), none] [] w) := by
  rw [Lm_unf P0 (M0 Ls) sp_275 13]
  rfl
set_option maxRecDepth 100000 in
theorem E_275_27 (Ls d : Nat) (x1 x2 x3 : Int) (u4 : Option AV) (w : AW) : Lm P0 (M0 Ls) d m_M_stepsOn 27 [some (.inr (.inr 113)), some (.inl x1), some (.inl x2), some (.inl x3), u4] [] w = (if x3 < (rd w 112 31) then Lm P0 (M0 Ls) d m_M_stepsOn 38 [some (.inr (.inr 113)), some (.inl x1), some (.inl x2), some (.inl x3), some (.inl 0)] [] w else Lm P0 (M0 Ls) d m_M_stepsOn 98 [some (.inr (.inr 113)), some (.inl x1), some (.inl x2), some (.inl 0), u4] [] w) := by
  rw [Lm_unf P0 (M0 Ls) sp_275 8]
  rfl
set_option maxRecDepth 100000 in
theorem E_275_38 (Ls d : Nat) (x1 x2 x3 x4 : Int) (w : AW) : Lm P0 (M0 Ls) d m_M_stepsOn 38 [some (.inr (.inr 113)), some (.inl x1), some (.inl x2), some (.inl x3), some (.inl x4)] [] w = (if x4 < (w32 ((rd w 112 30) - 1)) then (if 0 ≤ x3 ∧ x3 < 4096 then (if (rd w 132 x3) = 0 then Lm P0 (M0 Ls) d m_M_stepsOn 90 [some (.inr (.inr 113)), some (.inl x1), some (.inl x2), some (.inl x3), some (.inl x4)] [] w else Lk P0 (M0 Ls) d m_M_isKept [.inr (.inr 113), .inl x1, .inl x3, .inl x4] w (fun r_ w_ => Lm P0 (M0 Ls) d m_M_stepsOn 66 [some (.inr (.inr 113)), some (.inl x1), some (.inl x2), some (.inl x3), some (.inl x4)] (r_.toList ++ []) w_)) else none) else Lm P0 (M0 Ls) d m_M_stepsOn 90 [some (.inr (.inr 113)), some (.inl x1), some (.inl x2), some (.inl x3), some (.inl x4)] [] w) := by
  rw [Lm_unf P0 (M0 Ls) sp_275 17]
  rfl
set_option maxRecDepth 100000 in
theorem E_275_66 (Ls d : Nat) (x1 x2 x3 x4 y0 : Int) (w : AW) : Lm P0 (M0 Ls) d m_M_stepsOn 66 [some (.inr (.inr 113)), some (.inl x1), some (.inl x2), some (.inl x3), some (.inl x4)] [.inl y0] w = (if y0 = 0 then Lm P0 (M0 Ls) d m_M_stepsOn 84 [some (.inr (.inr 113)), some (.inl x1), some (.inl x2), some (.inl x3), some (.inl x4)] [] w else Lk P0 (M0 Ls) d m_M_laterState [.inr (.inr 113), .inl x3, .inl x4] w (fun r_ w_ => Lm P0 (M0 Ls) d m_M_stepsOn 80 [some (.inr (.inr 113)), some (.inl x1), some (.inl x2), some (.inl x3), some (.inl x4)] (r_.toList ++ [.inr (.inr 134)]) w_)) := by
  rw [Lm_unf P0 (M0 Ls) sp_275 8]
  rfl
set_option maxRecDepth 100000 in
theorem E_275_80 (Ls d : Nat) (x1 x2 x3 x4 y0 : Int) (w : AW) : Lm P0 (M0 Ls) d m_M_stepsOn 80 [some (.inr (.inr 113)), some (.inl x1), some (.inl x2), some (.inl x3), some (.inl x4)] [.inl y0, .inr (.inr 134)] w = (if 0 ≤ y0 ∧ y0 < 4096 then Lm P0 (M0 Ls) d m_M_stepsOn 84 [some (.inr (.inr 113)), some (.inl x1), some (.inl 1), some (.inl x3), some (.inl x4)] [] (wC w 133 y0 1) else none) := by
  rw [Lm_unf P0 (M0 Ls) sp_275 6]
  rfl
set_option maxRecDepth 100000 in
theorem E_275_84 (Ls d : Nat) (x1 x2 x3 x4 : Int) (w : AW) : Lm P0 (M0 Ls) d m_M_stepsOn 84 [some (.inr (.inr 113)), some (.inl x1), some (.inl x2), some (.inl x3), some (.inl x4)] [] w = Lm P0 (M0 Ls) d m_M_stepsOn 38 [some (.inr (.inr 113)), some (.inl x1), some (.inl x2), some (.inl x3), some (.inl (w32 (x4 + 1)))] [] w := by
  rw [Lm_unf P0 (M0 Ls) sp_275 4]
  rfl
set_option maxRecDepth 100000 in
theorem E_275_90 (Ls d : Nat) (x1 x2 x3 x4 : Int) (w : AW) : Lm P0 (M0 Ls) d m_M_stepsOn 90 [some (.inr (.inr 113)), some (.inl x1), some (.inl x2), some (.inl x3), some (.inl x4)] [] w = Lm P0 (M0 Ls) d m_M_stepsOn 27 [some (.inr (.inr 113)), some (.inl x1), some (.inl x2), some (.inl (w32 (x3 + 1))), some (.inl x4)] [] w := by
  rw [Lm_unf P0 (M0 Ls) sp_275 4]
  rfl
set_option maxRecDepth 100000 in
theorem E_275_98 (Ls d : Nat) (x1 x2 x3 : Int) (u4 : Option AV) (w : AW) : Lm P0 (M0 Ls) d m_M_stepsOn 98 [some (.inr (.inr 113)), some (.inl x1), some (.inl x2), some (.inl x3), u4] [] w = (if x3 < (rd w 112 31) then (if 0 ≤ x3 ∧ x3 < 4096 then (if 0 ≤ x3 ∧ x3 < 4096 then (if (rd w 133 x3) = 0 ∨ (rd w 133 x3) = 1 then Lm P0 (M0 Ls) d m_M_stepsOn 98 [some (.inr (.inr 113)), some (.inl x1), some (.inl x2), some (.inl (w32 (x3 + 1))), u4] [] (wC w 132 x3 (rd w 133 x3)) else none) else none) else none) else (if rok 3 x2 = true then some (some (.inl x2), w) else none)) := by
  rw [Lm_unf P0 (M0 Ls) sp_275 16]
  rfl
def sp_276 : Nat → Bool := fun q => [0, 9, 13, 35, 43, 46, 52, 66, 76, 83, 84, 106, 107].contains q
set_option maxRecDepth 100000 in
theorem E_276_0 (Ls d : Nat) (p1 : Int) (w : AW) : Lm P0 (M0 Ls) d m_M_rowsOf 0 [some (.inr (.inr 113)), some (.inl p1), none, none, none] [] w = Lk P0 (M0 Ls) d m_M_within [.inl p1, .inl 1, .inl 8] w (fun r_ w_ => Lm P0 (M0 Ls) d m_M_rowsOf 9 [some (.inr (.inr 113)), some (.inl p1), some (.inl 1), none, none] (r_.toList ++ []) w_) := by
  rw [Lm_unf P0 (M0 Ls) sp_276 7]
  rfl
set_option maxRecDepth 100000 in
theorem E_276_9 (Ls d : Nat) (x1 x2 y0 : Int) (w : AW) : Lm P0 (M0 Ls) d m_M_rowsOf 9 [some (.inr (.inr 113)), some (.inl x1), some (.inl x2), none, none] [.inl y0] w = Lm P0 (M0 Ls) d m_M_rowsOf 13 [some (.inr (.inr 113)), some (.inl x1), some (.inl x2), some (.inl y0), some (.inl 0)] [] w := by
  rw [Lm_unf P0 (M0 Ls) sp_276 5]
  rfl
set_option maxRecDepth 100000 in
theorem E_276_13 (Ls d : Nat) (x1 x2 x3 x4 : Int) (w : AW) : Lm P0 (M0 Ls) d m_M_rowsOf 13 [some (.inr (.inr 113)), some (.inl x1), some (.inl x2), some (.inl x3), some (.inl x4)] [] w = (if x4 < x1 then (if 20000 < x2 then Lm P0 (M0 Ls) d m_M_rowsOf 43 [some (.inr (.inr 113)), some (.inl x1), some (.inl x2), some (.inl x3), some (.inl x4)] [] w else (if x3 = 0 then Lm P0 (M0 Ls) d m_M_rowsOf 43 [some (.inr (.inr 113)), some (.inl x1), some (.inl x2), some (.inl x3), some (.inl x4)] [] w else Lk P0 (M0 Ls) d m_M_notes [.inr (.inr 113)] w (fun r_ w_ => Lm P0 (M0 Ls) d m_M_rowsOf 35 [some (.inr (.inr 113)), some (.inl x1), some (.inl x2), some (.inl x3), some (.inl x4)] (r_.toList ++ [.inl x2]) w_))) else Lm P0 (M0 Ls) d m_M_rowsOf 43 [some (.inr (.inr 113)), some (.inl x1), some (.inl x2), some (.inl x3), some (.inl x4)] [] w) := by
  rw [Lm_unf P0 (M0 Ls) sp_276 12]
  rfl
set_option maxRecDepth 100000 in
theorem E_276_35 (Ls d : Nat) (x1 x2 x3 x4 y0 y1 : Int) (w : AW) : Lm P0 (M0 Ls) d m_M_rowsOf 35 [some (.inr (.inr 113)), some (.inl x1), some (.inl x2), some (.inl x3), some (.inl x4)] [.inl y0, .inl y1] w = Lm P0 (M0 Ls) d m_M_rowsOf 13 [some (.inr (.inr 113)), some (.inl x1), some (.inl (w32 (y1 * y0))), some (.inl x3), some (.inl (w32 (x4 + 1)))] [] w := by
  rw [Lm_unf P0 (M0 Ls) sp_276 6]
  rfl
set_option maxRecDepth 100000 in
theorem E_276_43 (Ls d : Nat) (x1 x2 x3 x4 : Int) (w : AW) : Lm P0 (M0 Ls) d m_M_rowsOf 43 [some (.inr (.inr 113)), some (.inl x1), some (.inl x2), some (.inl x3), some (.inl x4)] [] w = Lm P0 (M0 Ls) d m_M_rowsOf 46 [some (.inr (.inr 113)), some (.inl x1), some (.inl x2), some (.inl x3), some (.inl 0)] [] w := by
  rw [Lm_unf P0 (M0 Ls) sp_276 4]
  rfl
set_option maxRecDepth 100000 in
theorem E_276_46 (Ls d : Nat) (x1 x2 x3 x4 : Int) (w : AW) : Lm P0 (M0 Ls) d m_M_rowsOf 46 [some (.inr (.inr 113)), some (.inl x1), some (.inl x2), some (.inl x3), some (.inl x4)] [] w = Lk P0 (M0 Ls) d m_M_echoes [.inr (.inr 113)] w (fun r_ w_ => Lm P0 (M0 Ls) d m_M_rowsOf 52 [some (.inr (.inr 113)), some (.inl x1), some (.inl x2), some (.inl x3), some (.inl x4)] (r_.toList ++ [.inl x4]) w_) := by
  rw [Lm_unf P0 (M0 Ls) sp_276 4]
  rfl
set_option maxRecDepth 100000 in
theorem E_276_52 (Ls d : Nat) (x1 x2 x3 x4 y0 y1 : Int) (w : AW) : Lm P0 (M0 Ls) d m_M_rowsOf 52 [some (.inr (.inr 113)), some (.inl x1), some (.inl x2), some (.inl x3), some (.inl x4)] [.inl y0, .inl y1] w = (if y1 < y0 then (if x3 = 0 then Lm P0 (M0 Ls) d m_M_rowsOf 83 [some (.inr (.inr 113)), some (.inl x1), some (.inl x2), some (.inl x3), some (.inl x4)] [] w else Lk P0 (M0 Ls) d m_M_echoOf [.inr (.inr 113), .inl x4, .inl 3] w (fun r_ w_ => Lm P0 (M0 Ls) d m_M_rowsOf 66 [some (.inr (.inr 113)), some (.inl x1), some (.inl x2), some (.inl x3), some (.inl x4)] (r_.toList ++ []) w_)) else (if x3 = 0 then Lm P0 (M0 Ls) d m_M_rowsOf 106 [some (.inr (.inr 113)), some (.inl x1), some (.inl x2), some (.inl x3), some (.inl x4)] [] w else (if 20000 < x2 then Lm P0 (M0 Ls) d m_M_rowsOf 106 [some (.inr (.inr 113)), some (.inl x1), some (.inl x2), some (.inl x3), some (.inl x4)] [] w else Lm P0 (M0 Ls) d m_M_rowsOf 107 [some (.inr (.inr 113)), some (.inl x1), some (.inl x2), some (.inl x3), some (.inl x4)] [.inl x2] w))) := by
  rw [Lm_unf P0 (M0 Ls) sp_276 10]
  rfl
set_option maxRecDepth 100000 in
theorem E_276_66 (Ls d : Nat) (x1 x2 x3 x4 y0 : Int) (w : AW) : Lm P0 (M0 Ls) d m_M_rowsOf 66 [some (.inr (.inr 113)), some (.inl x1), some (.inl x2), some (.inl x3), some (.inl x4)] [.inl y0] w = (if y0 = 0 then Lk P0 (M0 Ls) d m_M_echoOf [.inr (.inr 113), .inl x4, .inl 4] w (fun r_ w_ => Lm P0 (M0 Ls) d m_M_rowsOf 76 [some (.inr (.inr 113)), some (.inl x1), some (.inl x2), some (.inl x3), some (.inl x4)] (r_.toList ++ []) w_) else Lm P0 (M0 Ls) d m_M_rowsOf 83 [some (.inr (.inr 113)), some (.inl x1), some (.inl x2), some (.inl x3), some (.inl x4)] [] w) := by
  rw [Lm_unf P0 (M0 Ls) sp_276 6]
  rfl
set_option maxRecDepth 100000 in
theorem E_276_76 (Ls d : Nat) (x1 x2 x3 x4 y0 : Int) (w : AW) : Lm P0 (M0 Ls) d m_M_rowsOf 76 [some (.inr (.inr 113)), some (.inl x1), some (.inl x2), some (.inl x3), some (.inl x4)] [.inl y0] w = (if y0 = 0 then Lm P0 (M0 Ls) d m_M_rowsOf 84 [some (.inr (.inr 113)), some (.inl x1), some (.inl x2), some (.inl x3), some (.inl x4)] [.inl 1] w else Lm P0 (M0 Ls) d m_M_rowsOf 83 [some (.inr (.inr 113)), some (.inl x1), some (.inl x2), some (.inl x3), some (.inl x4)] [] w) := by
  rw [Lm_unf P0 (M0 Ls) sp_276 5]
  rfl
set_option maxRecDepth 100000 in
theorem E_276_83 (Ls d : Nat) (x1 x2 x3 x4 : Int) (w : AW) : Lm P0 (M0 Ls) d m_M_rowsOf 83 [some (.inr (.inr 113)), some (.inl x1), some (.inl x2), some (.inl x3), some (.inl x4)] [] w = Lm P0 (M0 Ls) d m_M_rowsOf 84 [some (.inr (.inr 113)), some (.inl x1), some (.inl x2), some (.inl x3), some (.inl x4)] [.inl 0] w := by
  rw [Lm_unf P0 (M0 Ls) sp_276 3]
  rfl
set_option maxRecDepth 100000 in
theorem E_276_84 (Ls d : Nat) (x1 x2 x3 x4 y0 : Int) (w : AW) : Lm P0 (M0 Ls) d m_M_rowsOf 84 [some (.inr (.inr 113)), some (.inl x1), some (.inl x2), some (.inl x3), some (.inl x4)] [.inl y0] w = Lm P0 (M0 Ls) d m_M_rowsOf 46 [some (.inr (.inr 113)), some (.inl x1), some (.inl x2), some (.inl y0), some (.inl (w32 (x4 + 1)))] [] w := by
  rw [Lm_unf P0 (M0 Ls) sp_276 5]
  rfl
set_option maxRecDepth 100000 in
theorem E_276_106 (Ls d : Nat) (x1 x2 x3 x4 : Int) (w : AW) : Lm P0 (M0 Ls) d m_M_rowsOf 106 [some (.inr (.inr 113)), some (.inl x1), some (.inl x2), some (.inl x3), some (.inl x4)] [] w = Lm P0 (M0 Ls) d m_M_rowsOf 107 [some (.inr (.inr 113)), some (.inl x1), some (.inl x2), some (.inl x3), some (.inl x4)] [.inl 0] w := by
  rw [Lm_unf P0 (M0 Ls) sp_276 3]
  rfl
set_option maxRecDepth 100000 in
theorem E_276_107 (Ls d : Nat) (x1 x2 x3 x4 y0 : Int) (w : AW) : Lm P0 (M0 Ls) d m_M_rowsOf 107 [some (.inr (.inr 113)), some (.inl x1), some (.inl x2), some (.inl x3), some (.inl x4)] [.inl y0] w = some (some (.inl y0), w) := by
  rw [Lm_unf P0 (M0 Ls) sp_276 2]
  rfl
def sp_277 : Nat → Bool := fun q => [0].contains q
set_option maxRecDepth 100000 in
theorem E_277_0 (Ls d : Nat) (p1 p2 : Int) (w : AW) : Lm P0 (M0 Ls) d m_M_rowAt 0 [some (.inr (.inr 113)), some (.inl p1), some (.inl p2)] [] w = if p2 = 0 then none else if p2 = 0 then none else (if 0 ≤ (Int.tmod (w32 ((Int.tmod p1 p2) + p2)) p2) ∧ (Int.tmod (w32 ((Int.tmod p1 p2) + p2)) p2) < 8 then some (some (.inl (rd w 134 (Int.tmod (w32 ((Int.tmod p1 p2) + p2)) p2))), w) else none) := by
  rw [Lm_unf P0 (M0 Ls) sp_277 12]
  rfl
def sp_278 : Nat → Bool := fun q => [0, 7, 23, 30, 47, 54, 61, 73, 100, 120, 133, 142, 151, 154, 175, 190, 199, 208, 211, 225, 229, 237, 245].contains q
set_option maxRecDepth 100000 in
theorem E_278_0 (Ls d : Nat) (p1 p2 : Int) (w : AW) : Lm P0 (M0 Ls) d m_M_isRound 0 [some (.inr (.inr 113)), some (.inl p1), some (.inl p2), none, none, none, none, none] [] w = Lm P0 (M0 Ls) d m_M_isRound 7 [some (.inr (.inr 113)), some (.inl p1), some (.inl p2), some (.inl p1), some (.inl (w32 (p2 - 1))), none, none, none] [] w := by
  rw [Lm_unf P0 (M0 Ls) sp_278 8]
  rfl
set_option maxRecDepth 100000 in
theorem E_278_7 (Ls d : Nat) (x1 x2 x3 x4 : Int) (w : AW) : Lm P0 (M0 Ls) d m_M_isRound 7 [some (.inr (.inr 113)), some (.inl x1), some (.inl x2), some (.inl x3), some (.inl x4), none, none, none] [] w = (if x4 < 0 then Lk P0 (M0 Ls) d m_M_echoes [.inr (.inr 113)] w (fun r_ w_ => Lm P0 (M0 Ls) d m_M_isRound 47 [some (.inr (.inr 113)), some (.inl x1), some (.inl x2), some (.inl x3), some (.inl 1), none, none, none] (r_.toList ++ [.inl 1, .inr (.inr 113)]) w_) else Lk P0 (M0 Ls) d m_M_notes [.inr (.inr 113)] w (fun r_ w_ => Lm P0 (M0 Ls) d m_M_isRound 23 [some (.inr (.inr 113)), some (.inl x1), some (.inl x2), some (.inl x3), some (.inl x4), none, none, none] (r_.toList ++ [.inl x3, .inl x4, .inr (.inr 135)]) w_)) := by
  rw [Lm_unf P0 (M0 Ls) sp_278 9]
  rfl
set_option maxRecDepth 100000 in
theorem E_278_23 (Ls d : Nat) (x1 x2 x3 x4 y0 y1 y2 : Int) (w : AW) : Lm P0 (M0 Ls) d m_M_isRound 23 [some (.inr (.inr 113)), some (.inl x1), some (.inl x2), some (.inl x3), some (.inl x4), none, none, none] [.inl y0, .inl y1, .inl y2, .inr (.inr 135)] w = if y0 = 0 then none else (if 0 ≤ y2 ∧ y2 < 8 then Lk P0 (M0 Ls) d m_M_notes [.inr (.inr 113)] (wC w 134 y2 (Int.tmod y1 y0)) (fun r_ w_ => Lm P0 (M0 Ls) d m_M_isRound 30 [some (.inr (.inr 113)), some (.inl x1), some (.inl x2), some (.inl x3), some (.inl x4), none, none, none] (r_.toList ++ [.inl x3]) w_) else none) := by
  rw [Lm_unf P0 (M0 Ls) sp_278 6]
  rfl
set_option maxRecDepth 100000 in
theorem E_278_30 (Ls d : Nat) (x1 x2 x3 x4 y0 y1 : Int) (w : AW) : Lm P0 (M0 Ls) d m_M_isRound 30 [some (.inr (.inr 113)), some (.inl x1), some (.inl x2), some (.inl x3), some (.inl x4), none, none, none] [.inl y0, .inl y1] w = if y0 = 0 then none else Lm P0 (M0 Ls) d m_M_isRound 7 [some (.inr (.inr 113)), some (.inl x1), some (.inl x2), some (.inl (w32 (Int.tdiv y1 y0))), some (.inl (w32 (x4 + (-1)))), none, none, none] [] w := by
  rw [Lm_unf P0 (M0 Ls) sp_278 6]
  rfl
set_option maxRecDepth 100000 in
theorem E_278_47 (Ls d : Nat) (x1 x2 x3 x4 y0 y1 : Int) (w : AW) : Lm P0 (M0 Ls) d m_M_isRound 47 [some (.inr (.inr 113)), some (.inl x1), some (.inl x2), some (.inl x3), some (.inl x4), none, none, none] [.inl y0, .inl y1, .inr (.inr 113)] w = Lm P0 (M0 Ls) d m_M_isRound 54 [some (.inr (.inr 113)), some (.inl x1), some (.inl x2), some (.inl x3), some (.inl x4), some (.inl 0), none, none] [] (wC w 112 24 (w32 (y1 + y0))) := by
  rw [Lm_unf P0 (M0 Ls) sp_278 6]
  rfl
set_option maxRecDepth 100000 in
theorem E_278_54 (Ls d : Nat) (x1 x2 x3 x4 x5 : Int) (u6 u7 : Option AV) (w : AW) : Lm P0 (M0 Ls) d m_M_isRound 54 [some (.inr (.inr 113)), some (.inl x1), some (.inl x2), some (.inl x3), some (.inl x4), some (.inl x5), u6, u7] [] w = Lk P0 (M0 Ls) d m_M_meter [.inr (.inr 113)] w (fun r_ w_ => Lm P0 (M0 Ls) d m_M_isRound 61 [some (.inr (.inr 113)), some (.inl x1), some (.inl x2), some (.inl x3), some (.inl x4), some (.inl x5), u6, u7] (r_.toList ++ [.inl x2, .inl x5]) w_) := by
  rw [Lm_unf P0 (M0 Ls) sp_278 5]
  rfl
set_option maxRecDepth 100000 in
theorem E_278_61 (Ls d : Nat) (x1 x2 x3 x4 x5 y0 y1 y2 : Int) (u6 u7 : Option AV) (w : AW) : Lm P0 (M0 Ls) d m_M_isRound 61 [some (.inr (.inr 113)), some (.inl x1), some (.inl x2), some (.inl x3), some (.inl x4), some (.inl x5), u6, u7] [.inl y0, .inl y1, .inl y2] w = (if y2 < (w32 (y1 * y0)) then (if x4 = 0 then Lm P0 (M0 Ls) d m_M_isRound 245 [some (.inr (.inr 113)), some (.inl x1), some (.inl x2), some (.inl x3), some (.inl x4), some (.inl x5), u6, u7] [] w else Lm P0 (M0 Ls) d m_M_isRound 73 [some (.inr (.inr 113)), some (.inl x1), some (.inl x2), some (.inl x3), some (.inl x4), some (.inl x5), some (.inl 0), u7] [] w) else Lm P0 (M0 Ls) d m_M_isRound 245 [some (.inr (.inr 113)), some (.inl x1), some (.inl x2), some (.inl x3), some (.inl x4), some (.inl x5), u6, u7] [] w) := by
  rw [Lm_unf P0 (M0 Ls) sp_278 8]
  rfl
set_option maxRecDepth 100000 in
theorem E_278_73 (Ls d : Nat) (x1 x2 x3 x4 x5 x6 : Int) (u7 : Option AV) (w : AW) : Lm P0 (M0 Ls) d m_M_isRound 73 [some (.inr (.inr 113)), some (.inl x1), some (.inl x2), some (.inl x3), some (.inl x4), some (.inl x5), some (.inl x6), u7] [] w = (if x6 < (rd w 112 24) then (if x6 = 0 then Lm P0 (M0 Ls) d m_M_isRound 100 [some (.inr (.inr 113)), some (.inl x1), some (.inl x2), some (.inl x3), some (.inl x4), some (.inl x5), some (.inl x6), u7] [.inl 0] w else Lk P0 (M0 Ls) d m_M_echoOf [.inr (.inr 113), .inl (w32 (x6 - 1)), .inl 0] w (fun r_ w_ => Lm P0 (M0 Ls) d m_M_isRound 100 [some (.inr (.inr 113)), some (.inl x1), some (.inl x2), some (.inl x3), some (.inl x4), some (.inl x5), some (.inl x6), u7] (r_.toList ++ []) w_)) else Lk P0 (M0 Ls) d m_M_strongIn [.inr (.inr 113), .inl x5] w (fun r_ w_ => Lm P0 (M0 Ls) d m_M_isRound 225 [some (.inr (.inr 113)), some (.inl x1), some (.inl x2), some (.inl x3), some (.inl x4), some (.inl x5), some (.inl x6), u7] (r_.toList ++ [.inr (.inr 113)]) w_)) := by
  rw [Lm_unf P0 (M0 Ls) sp_278 13]
  rfl
set_option maxRecDepth 100000 in
theorem E_278_100 (Ls d : Nat) (x1 x2 x3 x4 x5 x6 y0 : Int) (u7 : Option AV) (w : AW) : Lm P0 (M0 Ls) d m_M_isRound 100 [some (.inr (.inr 113)), some (.inl x1), some (.inl x2), some (.inl x3), some (.inl x4), some (.inl x5), some (.inl x6), u7] [.inl y0] w = (if x6 = 0 then Lk P0 (M0 Ls) d m_M_rowAt [.inr (.inr 113), .inl x5, .inl x2] w (fun r_ w_ => Lm P0 (M0 Ls) d m_M_isRound 120 [some (.inr (.inr 113)), some (.inl x1), some (.inl x2), some (.inl x3), some (.inl x4), some (.inl x5), some (.inl x6), some (.inl y0)] (r_.toList ++ [.inl x6, .inr (.inr 125)]) w_) else Lk P0 (M0 Ls) d m_M_rowAt [.inr (.inr 113), .inl (w32 (x5 - y0)), .inl x2] w (fun r_ w_ => Lm P0 (M0 Ls) d m_M_isRound 133 [some (.inr (.inr 113)), some (.inl x1), some (.inl x2), some (.inl x3), some (.inl x4), some (.inl x5), some (.inl x6), some (.inl y0)] (r_.toList ++ [.inl x6, .inr (.inr 125)]) w_)) := by
  rw [Lm_unf P0 (M0 Ls) sp_278 13]
  rfl
set_option maxRecDepth 100000 in
theorem E_278_120 (Ls d : Nat) (x1 x2 x3 x4 x5 x6 x7 y0 y1 : Int) (w : AW) : Lm P0 (M0 Ls) d m_M_isRound 120 [some (.inr (.inr 113)), some (.inl x1), some (.inl x2), some (.inl x3), some (.inl x4), some (.inl x5), some (.inl x6), some (.inl x7)] [.inl y0, .inl y1, .inr (.inr 125)] w = Lm P0 (M0 Ls) d m_M_isRound 154 [some (.inr (.inr 113)), some (.inl x1), some (.inl x2), some (.inl x3), some (.inl x4), some (.inl x5), some (.inl x6), some (.inl x7)] [.inl y0, .inl y1, .inr (.inr 125)] w := by
  rw [Lm_unf P0 (M0 Ls) sp_278 3]
  rfl
set_option maxRecDepth 100000 in
theorem E_278_133 (Ls d : Nat) (x1 x2 x3 x4 x5 x6 x7 y0 y1 : Int) (w : AW) : Lm P0 (M0 Ls) d m_M_isRound 133 [some (.inr (.inr 113)), some (.inl x1), some (.inl x2), some (.inl x3), some (.inl x4), some (.inl x5), some (.inl x6), some (.inl x7)] [.inl y0, .inl y1, .inr (.inr 125)] w = Lk P0 (M0 Ls) d m_M_echoOf [.inr (.inr 113), .inl (w32 (x6 - 1)), .inl 1] w (fun r_ w_ => Lm P0 (M0 Ls) d m_M_isRound 142 [some (.inr (.inr 113)), some (.inl x1), some (.inl x2), some (.inl x3), some (.inl x4), some (.inl x5), some (.inl x6), some (.inl x7)] (r_.toList ++ [.inl y0, .inl y1, .inr (.inr 125)]) w_) := by
  rw [Lm_unf P0 (M0 Ls) sp_278 7]
  rfl
set_option maxRecDepth 100000 in
theorem E_278_142 (Ls d : Nat) (x1 x2 x3 x4 x5 x6 x7 y0 y1 y2 : Int) (w : AW) : Lm P0 (M0 Ls) d m_M_isRound 142 [some (.inr (.inr 113)), some (.inl x1), some (.inl x2), some (.inl x3), some (.inl x4), some (.inl x5), some (.inl x6), some (.inl x7)] [.inl y0, .inl y1, .inl y2, .inr (.inr 125)] w = Lk P0 (M0 Ls) d m_M_echoOf [.inr (.inr 113), .inl (w32 (x6 - 1)), .inl 2] w (fun r_ w_ => Lm P0 (M0 Ls) d m_M_isRound 151 [some (.inr (.inr 113)), some (.inl x1), some (.inl x2), some (.inl x3), some (.inl x4), some (.inl x5), some (.inl x6), some (.inl x7)] (r_.toList ++ [.inl y0, .inl y1, .inl y2, .inr (.inr 125)]) w_) := by
  rw [Lm_unf P0 (M0 Ls) sp_278 7]
  rfl
set_option maxRecDepth 100000 in
theorem E_278_151 (Ls d : Nat) (x1 x2 x3 x4 x5 x6 x7 y0 y1 y2 y3 : Int) (w : AW) : Lm P0 (M0 Ls) d m_M_isRound 151 [some (.inr (.inr 113)), some (.inl x1), some (.inl x2), some (.inl x3), some (.inl x4), some (.inl x5), some (.inl x6), some (.inl x7)] [.inl y0, .inl y1, .inl y2, .inl y3, .inr (.inr 125)] w = Lk P0 (M0 Ls) d m_M_shifted [.inl y2, .inl y1, .inl y0] w (fun r_ w_ => Lm P0 (M0 Ls) d m_M_isRound 154 [some (.inr (.inr 113)), some (.inl x1), some (.inl x2), some (.inl x3), some (.inl x4), some (.inl x5), some (.inl x6), some (.inl x7)] (r_.toList ++ [.inl y3, .inr (.inr 125)]) w_) := by
  rw [Lm_unf P0 (M0 Ls) sp_278 2]
  rfl
set_option maxRecDepth 100000 in
theorem E_278_154 (Ls d : Nat) (x1 x2 x3 x4 x5 x6 x7 y0 y1 : Int) (w : AW) : Lm P0 (M0 Ls) d m_M_isRound 154 [some (.inr (.inr 113)), some (.inl x1), some (.inl x2), some (.inl x3), some (.inl x4), some (.inl x5), some (.inl x6), some (.inl x7)] [.inl y0, .inl y1, .inr (.inr 125)] w = (if 0 ≤ y1 ∧ y1 < 9 then (if x6 = 0 then Lk P0 (M0 Ls) d m_M_rowAt [.inr (.inr 113), .inl (w32 (x5 - 1)), .inl x2] (wC w 124 y1 y0) (fun r_ w_ => Lm P0 (M0 Ls) d m_M_isRound 175 [some (.inr (.inr 113)), some (.inl x1), some (.inl x2), some (.inl x3), some (.inl x4), some (.inl x5), some (.inl x6), some (.inl x7)] (r_.toList ++ [.inl x6, .inr (.inr 126)]) w_) else Lk P0 (M0 Ls) d m_M_rowAt [.inr (.inr 113), .inl (w32 ((w32 (x5 - x7)) - 1)), .inl x2] (wC w 124 y1 y0) (fun r_ w_ => Lm P0 (M0 Ls) d m_M_isRound 190 [some (.inr (.inr 113)), some (.inl x1), some (.inl x2), some (.inl x3), some (.inl x4), some (.inl x5), some (.inl x6), some (.inl x7)] (r_.toList ++ [.inl x6, .inr (.inr 126)]) w_)) else none) := by
  rw [Lm_unf P0 (M0 Ls) sp_278 15]
  rfl
set_option maxRecDepth 100000 in
theorem E_278_175 (Ls d : Nat) (x1 x2 x3 x4 x5 x6 x7 y0 y1 : Int) (w : AW) : Lm P0 (M0 Ls) d m_M_isRound 175 [some (.inr (.inr 113)), some (.inl x1), some (.inl x2), some (.inl x3), some (.inl x4), some (.inl x5), some (.inl x6), some (.inl x7)] [.inl y0, .inl y1, .inr (.inr 126)] w = Lm P0 (M0 Ls) d m_M_isRound 211 [some (.inr (.inr 113)), some (.inl x1), some (.inl x2), some (.inl x3), some (.inl x4), some (.inl x5), some (.inl x6), some (.inl x7)] [.inl y0, .inl y1, .inr (.inr 126)] w := by
  rw [Lm_unf P0 (M0 Ls) sp_278 3]
  rfl
set_option maxRecDepth 100000 in
theorem E_278_190 (Ls d : Nat) (x1 x2 x3 x4 x5 x6 x7 y0 y1 : Int) (w : AW) : Lm P0 (M0 Ls) d m_M_isRound 190 [some (.inr (.inr 113)), some (.inl x1), some (.inl x2), some (.inl x3), some (.inl x4), some (.inl x5), some (.inl x6), some (.inl x7)] [.inl y0, .inl y1, .inr (.inr 126)] w = Lk P0 (M0 Ls) d m_M_echoOf [.inr (.inr 113), .inl (w32 (x6 - 1)), .inl 1] w (fun r_ w_ => Lm P0 (M0 Ls) d m_M_isRound 199 [some (.inr (.inr 113)), some (.inl x1), some (.inl x2), some (.inl x3), some (.inl x4), some (.inl x5), some (.inl x6), some (.inl x7)] (r_.toList ++ [.inl y0, .inl y1, .inr (.inr 126)]) w_) := by
  rw [Lm_unf P0 (M0 Ls) sp_278 7]
  rfl
set_option maxRecDepth 100000 in
theorem E_278_199 (Ls d : Nat) (x1 x2 x3 x4 x5 x6 x7 y0 y1 y2 : Int) (w : AW) : Lm P0 (M0 Ls) d m_M_isRound 199 [some (.inr (.inr 113)), some (.inl x1), some (.inl x2), some (.inl x3), some (.inl x4), some (.inl x5), some (.inl x6), some (.inl x7)] [.inl y0, .inl y1, .inl y2, .inr (.inr 126)] w = Lk P0 (M0 Ls) d m_M_echoOf [.inr (.inr 113), .inl (w32 (x6 - 1)), .inl 2] w (fun r_ w_ => Lm P0 (M0 Ls) d m_M_isRound 208 [some (.inr (.inr 113)), some (.inl x1), some (.inl x2), some (.inl x3), some (.inl x4), some (.inl x5), some (.inl x6), some (.inl x7)] (r_.toList ++ [.inl y0, .inl y1, .inl y2, .inr (.inr 126)]) w_) := by
  rw [Lm_unf P0 (M0 Ls) sp_278 7]
  rfl
set_option maxRecDepth 100000 in
theorem E_278_208 (Ls d : Nat) (x1 x2 x3 x4 x5 x6 x7 y0 y1 y2 y3 : Int) (w : AW) : Lm P0 (M0 Ls) d m_M_isRound 208 [some (.inr (.inr 113)), some (.inl x1), some (.inl x2), some (.inl x3), some (.inl x4), some (.inl x5), some (.inl x6), some (.inl x7)] [.inl y0, .inl y1, .inl y2, .inl y3, .inr (.inr 126)] w = Lk P0 (M0 Ls) d m_M_shifted [.inl y2, .inl y1, .inl y0] w (fun r_ w_ => Lm P0 (M0 Ls) d m_M_isRound 211 [some (.inr (.inr 113)), some (.inl x1), some (.inl x2), some (.inl x3), some (.inl x4), some (.inl x5), some (.inl x6), some (.inl x7)] (r_.toList ++ [.inl y3, .inr (.inr 126)]) w_) := by
  rw [Lm_unf P0 (M0 Ls) sp_278 2]
  rfl
set_option maxRecDepth 100000 in
theorem E_278_211 (Ls d : Nat) (x1 x2 x3 x4 x5 x6 x7 y0 y1 : Int) (w : AW) : Lm P0 (M0 Ls) d m_M_isRound 211 [some (.inr (.inr 113)), some (.inl x1), some (.inl x2), some (.inl x3), some (.inl x4), some (.inl x5), some (.inl x6), some (.inl x7)] [.inl y0, .inl y1, .inr (.inr 126)] w = (if 0 ≤ y1 ∧ y1 < 9 then Lm P0 (M0 Ls) d m_M_isRound 73 [some (.inr (.inr 113)), some (.inl x1), some (.inl x2), some (.inl x3), some (.inl x4), some (.inl x5), some (.inl (w32 (x6 + 1))), some (.inl x7)] [] (wC w 125 y1 y0) else none) := by
  rw [Lm_unf P0 (M0 Ls) sp_278 5]
  rfl
set_option maxRecDepth 100000 in
theorem E_278_225 (Ls d : Nat) (x1 x2 x3 x4 x5 x6 y0 : Int) (u7 : Option AV) (w : AW) : Lm P0 (M0 Ls) d m_M_isRound 225 [some (.inr (.inr 113)), some (.inl x1), some (.inl x2), some (.inl x3), some (.inl x4), some (.inl x5), some (.inl x6), u7] [.inl y0, .inr (.inr 113)] w = Lk P0 (M0 Ls) d m_M_isAgainst [.inr (.inr 113), .inl y0, .inl 1] w (fun r_ w_ => Lm P0 (M0 Ls) d m_M_isRound 229 [some (.inr (.inr 113)), some (.inl x1), some (.inl x2), some (.inl x3), some (.inl x4), some (.inl x5), some (.inl x6), u7] (r_.toList ++ []) w_) := by
  rw [Lm_unf P0 (M0 Ls) sp_278 3]
  rfl
set_option maxRecDepth 100000 in
theorem E_278_229 (Ls d : Nat) (x1 x2 x3 x4 x5 x6 y0 : Int) (u7 : Option AV) (w : AW) : Lm P0 (M0 Ls) d m_M_isRound 229 [some (.inr (.inr 113)), some (.inl x1), some (.inl x2), some (.inl x3), some (.inl x4), some (.inl x5), some (.inl x6), u7] [.inl y0] w = (if y0 = 0 then Lm P0 (M0 Ls) d m_M_isRound 237 [some (.inr (.inr 113)), some (.inl x1), some (.inl x2), some (.inl x3), some (.inl x4), some (.inl x5), some (.inl x6), u7] [.inl 1] w else Lm P0 (M0 Ls) d m_M_isRound 237 [some (.inr (.inr 113)), some (.inl x1), some (.inl x2), some (.inl x3), some (.inl x4), some (.inl x5), some (.inl x6), u7] [.inl 0] w) := by
  rw [Lm_unf P0 (M0 Ls) sp_278 5]
  rfl
set_option maxRecDepth 100000 in
theorem E_278_237 (Ls d : Nat) (x1 x2 x3 x4 x5 x6 y0 : Int) (u7 : Option AV) (w : AW) : Lm P0 (M0 Ls) d m_M_isRound 237 [some (.inr (.inr 113)), some (.inl x1), some (.inl x2), some (.inl x3), some (.inl x4), some (.inl x5), some (.inl x6), u7] [.inl y0] w = Lm P0 (M0 Ls) d m_M_isRound 54 [some (.inr (.inr 113)), some (.inl x1), some (.inl x2), some (.inl x3), some (.inl y0), some (.inl (w32 (x5 + 1))), some (.inl x6), u7] [] w := by
  rw [Lm_unf P0 (M0 Ls) sp_278 5]
  rfl
set_option maxRecDepth 100000 in
theorem E_278_245 (Ls d : Nat) (x1 x2 x3 x4 x5 : Int) (u6 u7 : Option AV) (w : AW) : Lm P0 (M0 Ls) d m_M_isRound 245 [some (.inr (.inr 113)), some (.inl x1), some (.inl x2), some (.inl x3), some (.inl x4), some (.inl x5), u6, u7] [] w = (if rok 3 x4 = true then some (some (.inl x4), w) else none) := by
  rw [Lm_unf P0 (M0 Ls) sp_278 3]
  rfl
def sp_279 : Nat → Bool := fun q => [0, 10, 14, 36, 52].contains q
set_option maxRecDepth 100000 in
theorem E_279_0 (Ls d : Nat) (p1 p2 : Int) (w : AW) : Lm P0 (M0 Ls) d m_M_round 0 [some (.inr (.inr 113)), some (.inl p1), some (.inl p2), none, none] [] w = Lk P0 (M0 Ls) d m_M_rowsOf [.inr (.inr 113), .inl p1] (wC w 112 0 0) (fun r_ w_ => Lm P0 (M0 Ls) d m_M_round 10 [some (.inr (.inr 113)), some (.inl p1), some (.inl p2), none, none] (r_.toList ++ []) w_) := by
  rw [Lm_unf P0 (M0 Ls) sp_279 7]
  rfl
set_option maxRecDepth 100000 in
theorem E_279_10 (Ls d : Nat) (x1 x2 y0 : Int) (w : AW) : Lm P0 (M0 Ls) d m_M_round 10 [some (.inr (.inr 113)), some (.inl x1), some (.inl x2), none, none] [.inl y0] w = Lm P0 (M0 Ls) d m_M_round 14 [some (.inr (.inr 113)), some (.inl x1), some (.inl x2), some (.inl y0), some (.inl 0)] [] w := by
  rw [Lm_unf P0 (M0 Ls) sp_279 5]
  rfl
set_option maxRecDepth 100000 in
theorem E_279_14 (Ls d : Nat) (x1 x2 x3 x4 : Int) (w : AW) : Lm P0 (M0 Ls) d m_M_round 14 [some (.inr (.inr 113)), some (.inl x1), some (.inl x2), some (.inl x3), some (.inl x4)] [] w = (if x4 < x3 then (if x2 < 0 then Lm P0 (M0 Ls) d m_M_round 52 [some (.inr (.inr 113)), some (.inl x1), some (.inl x2), some (.inl x3), some (.inl x4)] [] w else (if x2 < x1 then Lk P0 (M0 Ls) d m_M_isRound [.inr (.inr 113), .inl x4, .inl x1] w (fun r_ w_ => Lm P0 (M0 Ls) d m_M_round 36 [some (.inr (.inr 113)), some (.inl x1), some (.inl x2), some (.inl x3), some (.inl x4)] (r_.toList ++ []) w_) else Lm P0 (M0 Ls) d m_M_round 52 [some (.inr (.inr 113)), some (.inl x1), some (.inl x2), some (.inl x3), some (.inl x4)] [] w)) else Lm P0 (M0 Ls) d m_M_round 52 [some (.inr (.inr 113)), some (.inl x1), some (.inl x2), some (.inl x3), some (.inl x4)] [] w) := by
  rw [Lm_unf P0 (M0 Ls) sp_279 13]
  rfl
set_option maxRecDepth 100000 in
theorem E_279_36 (Ls d : Nat) (x1 x2 x3 x4 y0 : Int) (w : AW) : Lm P0 (M0 Ls) d m_M_round 36 [some (.inr (.inr 113)), some (.inl x1), some (.inl x2), some (.inl x3), some (.inl x4)] [.inl y0] w = (if y0 = 0 then Lm P0 (M0 Ls) d m_M_round 14 [some (.inr (.inr 113)), some (.inl x1), some (.inl x2), some (.inl x3), some (.inl (w32 (x4 + 1)))] [] w else (if 0 ≤ x2 ∧ x2 < 8 then some (some (.inl (rd w 134 x2)), w) else none)) := by
  rw [Lm_unf P0 (M0 Ls) sp_279 7]
  rfl
set_option maxRecDepth 100000 in
theorem E_279_52 (Ls d : Nat) (x1 x2 x3 x4 : Int) (w : AW) : Lm P0 (M0 Ls) d m_M_round 52 [some (.inr (.inr 113)), some (.inl x1), some (.inl x2), some (.inl x3), some (.inl x4)] [] w = some (some (.inl (-1)), w) := by
  rw [Lm_unf P0 (M0 Ls) sp_279 3]
  rfl
def sp_280 : Nat → Bool := fun q => [0, 10, 16, 30, 38, 55].contains q
set_option maxRecDepth 100000 in
theorem E_280_0 (Ls d : Nat) (p1 : Int) (w : AW) : Lm P0 (M0 Ls) d m_M_rounds 0 [some (.inr (.inr 113)), some (.inl p1), none, none, none] [] w = Lk P0 (M0 Ls) d m_M_rowsOf [.inr (.inr 113), .inl p1] (wC w 112 0 0) (fun r_ w_ => Lm P0 (M0 Ls) d m_M_rounds 10 [some (.inr (.inr 113)), some (.inl p1), none, none, none] (r_.toList ++ []) w_) := by
  rw [Lm_unf P0 (M0 Ls) sp_280 7]
  rfl
set_option maxRecDepth 100000 in
theorem E_280_10 (Ls d : Nat) (x1 y0 : Int) (w : AW) : Lm P0 (M0 Ls) d m_M_rounds 10 [some (.inr (.inr 113)), some (.inl x1), none, none, none] [.inl y0] w = Lm P0 (M0 Ls) d m_M_rounds 16 [some (.inr (.inr 113)), some (.inl x1), some (.inl y0), some (.inl 0), some (.inl 0)] [] w := by
  rw [Lm_unf P0 (M0 Ls) sp_280 7]
  rfl
set_option maxRecDepth 100000 in
theorem E_280_16 (Ls d : Nat) (x1 x2 x3 x4 : Int) (w : AW) : Lm P0 (M0 Ls) d m_M_rounds 16 [some (.inr (.inr 113)), some (.inl x1), some (.inl x2), some (.inl x3), some (.inl x4)] [] w = (if x4 < x2 then Lk P0 (M0 Ls) d m_M_isRound [.inr (.inr 113), .inl x4, .inl x1] w (fun r_ w_ => Lm P0 (M0 Ls) d m_M_rounds 30 [some (.inr (.inr 113)), some (.inl x1), some (.inl x2), some (.inl x3), some (.inl x4)] (r_.toList ++ [.inl x3]) w_) else (if x2 = 0 then Lm P0 (M0 Ls) d m_M_rounds 55 [some (.inr (.inr 113)), some (.inl x1), some (.inl x2), some (.inl x3), some (.inl x4)] [.inl (-1)] w else Lm P0 (M0 Ls) d m_M_rounds 55 [some (.inr (.inr 113)), some (.inl x1), some (.inl x2), some (.inl x3), some (.inl x4)] [.inl x3] w)) := by
  rw [Lm_unf P0 (M0 Ls) sp_280 9]
  rfl
set_option maxRecDepth 100000 in
theorem E_280_30 (Ls d : Nat) (x1 x2 x3 x4 y0 y1 : Int) (w : AW) : Lm P0 (M0 Ls) d m_M_rounds 30 [some (.inr (.inr 113)), some (.inl x1), some (.inl x2), some (.inl x3), some (.inl x4)] [.inl y0, .inl y1] w = (if y0 = 0 then Lm P0 (M0 Ls) d m_M_rounds 38 [some (.inr (.inr 113)), some (.inl x1), some (.inl x2), some (.inl x3), some (.inl x4)] [.inl 0, .inl y1] w else Lm P0 (M0 Ls) d m_M_rounds 38 [some (.inr (.inr 113)), some (.inl x1), some (.inl x2), some (.inl x3), some (.inl x4)] [.inl 1, .inl y1] w) := by
  rw [Lm_unf P0 (M0 Ls) sp_280 5]
  rfl
set_option maxRecDepth 100000 in
theorem E_280_38 (Ls d : Nat) (x1 x2 x3 x4 y0 y1 : Int) (w : AW) : Lm P0 (M0 Ls) d m_M_rounds 38 [some (.inr (.inr 113)), some (.inl x1), some (.inl x2), some (.inl x3), some (.inl x4)] [.inl y0, .inl y1] w = Lm P0 (M0 Ls) d m_M_rounds 16 [some (.inr (.inr 113)), some (.inl x1), some (.inl x2), some (.inl (w32 (y1 + y0))), some (.inl (w32 (x4 + 1)))] [] w := by
  rw [Lm_unf P0 (M0 Ls) sp_280 6]
  rfl
set_option maxRecDepth 100000 in
theorem E_280_55 (Ls d : Nat) (x1 x2 x3 x4 y0 : Int) (w : AW) : Lm P0 (M0 Ls) d m_M_rounds 55 [some (.inr (.inr 113)), some (.inl x1), some (.inl x2), some (.inl x3), some (.inl x4)] [.inl y0] w = some (some (.inl y0), w) := by
  rw [Lm_unf P0 (M0 Ls) sp_280 2]
  rfl
def sp_281 : Nat → Bool := fun q => [0, 11, 17, 39, 53, 67, 72, 88, 93, 101, 105, 113, 121].contains q
set_option maxRecDepth 100000 in
theorem E_281_0 (Ls d : Nat) (p1 p2 p3 : Int) (w : AW) : Lm P0 (M0 Ls) d m_M_isCanon 0 [some (.inr (.inr 113)), some (.inl p1), some (.inl p2), some (.inl p3), none, none] [] w = Lm P0 (M0 Ls) d m_M_isCanon 11 [some (.inr (.inr 113)), some (.inl p1), some (.inl p2), some (.inl p3), some (.inl 1), some (.inl 0)] [] (wC w 112 24 2) := by
  rw [Lm_unf P0 (M0 Ls) sp_281 9]
  rfl
set_option maxRecDepth 100000 in
theorem E_281_11 (Ls d : Nat) (x1 x2 x3 x4 x5 : Int) (w : AW) : Lm P0 (M0 Ls) d m_M_isCanon 11 [some (.inr (.inr 113)), some (.inl x1), some (.inl x2), some (.inl x3), some (.inl x4), some (.inl x5)] [] w = Lk P0 (M0 Ls) d m_M_beats [.inr (.inr 113)] w (fun r_ w_ => Lm P0 (M0 Ls) d m_M_isCanon 17 [some (.inr (.inr 113)), some (.inl x1), some (.inl x2), some (.inl x3), some (.inl x4), some (.inl x5)] (r_.toList ++ [.inl x5]) w_) := by
  rw [Lm_unf P0 (M0 Ls) sp_281 4]
  rfl
set_option maxRecDepth 100000 in
theorem E_281_17 (Ls d : Nat) (x1 x2 x3 x4 x5 y0 y1 : Int) (w : AW) : Lm P0 (M0 Ls) d m_M_isCanon 17 [some (.inr (.inr 113)), some (.inl x1), some (.inl x2), some (.inl x3), some (.inl x4), some (.inl x5)] [.inl y0, .inl y1] w = (if y1 < (w32 (y0 + 32)) then (if x4 = 0 then Lm P0 (M0 Ls) d m_M_isCanon 121 [some (.inr (.inr 113)), some (.inl x1), some (.inl x2), some (.inl x3), some (.inl x4), some (.inl x5)] [] w else Lk P0 (M0 Ls) d m_M_sung [.inr (.inr 113), .inl x5] w (fun r_ w_ => Lm P0 (M0 Ls) d m_M_isCanon 39 [some (.inr (.inr 113)), some (.inl x1), some (.inl x2), some (.inl x3), some (.inl x4), some (.inl x5)] (r_.toList ++ [.inl 0, .inr (.inr 125)]) w_)) else Lm P0 (M0 Ls) d m_M_isCanon 121 [some (.inr (.inr 113)), some (.inl x1), some (.inl x2), some (.inl x3), some (.inl x4), some (.inl x5)] [] w) := by
  rw [Lm_unf P0 (M0 Ls) sp_281 12]
  rfl
set_option maxRecDepth 100000 in
theorem E_281_39 (Ls d : Nat) (x1 x2 x3 x4 x5 y0 y1 : Int) (w : AW) : Lm P0 (M0 Ls) d m_M_isCanon 39 [some (.inr (.inr 113)), some (.inl x1), some (.inl x2), some (.inl x3), some (.inl x4), some (.inl x5)] [.inl y0, .inl y1, .inr (.inr 125)] w = (if 0 ≤ y1 ∧ y1 < 9 then Lk P0 (M0 Ls) d m_M_sung [.inr (.inr 113), .inl (w32 (x5 - 1))] (wC w 124 y1 y0) (fun r_ w_ => Lm P0 (M0 Ls) d m_M_isCanon 53 [some (.inr (.inr 113)), some (.inl x1), some (.inl x2), some (.inl x3), some (.inl x4), some (.inl x5)] (r_.toList ++ [.inl 0, .inr (.inr 126)]) w_) else none) := by
  rw [Lm_unf P0 (M0 Ls) sp_281 10]
  rfl
set_option maxRecDepth 100000 in
theorem E_281_53 (Ls d : Nat) (x1 x2 x3 x4 x5 y0 y1 : Int) (w : AW) : Lm P0 (M0 Ls) d m_M_isCanon 53 [some (.inr (.inr 113)), some (.inl x1), some (.inl x2), some (.inl x3), some (.inl x4), some (.inl x5)] [.inl y0, .inl y1, .inr (.inr 126)] w = (if 0 ≤ y1 ∧ y1 < 9 then Lk P0 (M0 Ls) d m_M_sung [.inr (.inr 113), .inl (w32 (x5 - x1))] (wC w 125 y1 y0) (fun r_ w_ => Lm P0 (M0 Ls) d m_M_isCanon 67 [some (.inr (.inr 113)), some (.inl x1), some (.inl x2), some (.inl x3), some (.inl x4), some (.inl x5)] (r_.toList ++ [.inl 1, .inr (.inr 125)]) w_) else none) := by
  rw [Lm_unf P0 (M0 Ls) sp_281 10]
  rfl
set_option maxRecDepth 100000 in
theorem E_281_67 (Ls d : Nat) (x1 x2 x3 x4 x5 y0 y1 : Int) (w : AW) : Lm P0 (M0 Ls) d m_M_isCanon 67 [some (.inr (.inr 113)), some (.inl x1), some (.inl x2), some (.inl x3), some (.inl x4), some (.inl x5)] [.inl y0, .inl y1, .inr (.inr 125)] w = Lk P0 (M0 Ls) d m_M_shifted [.inl y0, .inl x2, .inl x3] w (fun r_ w_ => Lm P0 (M0 Ls) d m_M_isCanon 72 [some (.inr (.inr 113)), some (.inl x1), some (.inl x2), some (.inl x3), some (.inl x4), some (.inl x5)] (r_.toList ++ [.inl y1, .inr (.inr 125)]) w_) := by
  rw [Lm_unf P0 (M0 Ls) sp_281 4]
  rfl
set_option maxRecDepth 100000 in
theorem E_281_72 (Ls d : Nat) (x1 x2 x3 x4 x5 y0 y1 : Int) (w : AW) : Lm P0 (M0 Ls) d m_M_isCanon 72 [some (.inr (.inr 113)), some (.inl x1), some (.inl x2), some (.inl x3), some (.inl x4), some (.inl x5)] [.inl y0, .inl y1, .inr (.inr 125)] w = (if 0 ≤ y1 ∧ y1 < 9 then Lk P0 (M0 Ls) d m_M_sung [.inr (.inr 113), .inl (w32 ((w32 (x5 - x1)) - 1))] (wC w 124 y1 y0) (fun r_ w_ => Lm P0 (M0 Ls) d m_M_isCanon 88 [some (.inr (.inr 113)), some (.inl x1), some (.inl x2), some (.inl x3), some (.inl x4), some (.inl x5)] (r_.toList ++ [.inl 1, .inr (.inr 126)]) w_) else none) := by
  rw [Lm_unf P0 (M0 Ls) sp_281 12]
  rfl
set_option maxRecDepth 100000 in
theorem E_281_88 (Ls d : Nat) (x1 x2 x3 x4 x5 y0 y1 : Int) (w : AW) : Lm P0 (M0 Ls) d m_M_isCanon 88 [some (.inr (.inr 113)), some (.inl x1), some (.inl x2), some (.inl x3), some (.inl x4), some (.inl x5)] [.inl y0, .inl y1, .inr (.inr 126)] w = Lk P0 (M0 Ls) d m_M_shifted [.inl y0, .inl x2, .inl x3] w (fun r_ w_ => Lm P0 (M0 Ls) d m_M_isCanon 93 [some (.inr (.inr 113)), some (.inl x1), some (.inl x2), some (.inl x3), some (.inl x4), some (.inl x5)] (r_.toList ++ [.inl y1, .inr (.inr 126)]) w_) := by
  rw [Lm_unf P0 (M0 Ls) sp_281 4]
  rfl
set_option maxRecDepth 100000 in
theorem E_281_93 (Ls d : Nat) (x1 x2 x3 x4 x5 y0 y1 : Int) (w : AW) : Lm P0 (M0 Ls) d m_M_isCanon 93 [some (.inr (.inr 113)), some (.inl x1), some (.inl x2), some (.inl x3), some (.inl x4), some (.inl x5)] [.inl y0, .inl y1, .inr (.inr 126)] w = (if 0 ≤ y1 ∧ y1 < 9 then Lk P0 (M0 Ls) d m_M_strongIn [.inr (.inr 113), .inl x5] (wC w 125 y1 y0) (fun r_ w_ => Lm P0 (M0 Ls) d m_M_isCanon 101 [some (.inr (.inr 113)), some (.inl x1), some (.inl x2), some (.inl x3), some (.inl x4), some (.inl x5)] (r_.toList ++ [.inr (.inr 113)]) w_) else none) := by
  rw [Lm_unf P0 (M0 Ls) sp_281 6]
  rfl
set_option maxRecDepth 100000 in
theorem E_281_101 (Ls d : Nat) (x1 x2 x3 x4 x5 y0 : Int) (w : AW) : Lm P0 (M0 Ls) d m_M_isCanon 101 [some (.inr (.inr 113)), some (.inl x1), some (.inl x2), some (.inl x3), some (.inl x4), some (.inl x5)] [.inl y0, .inr (.inr 113)] w = Lk P0 (M0 Ls) d m_M_isAgainst [.inr (.inr 113), .inl y0, .inl 1] w (fun r_ w_ => Lm P0 (M0 Ls) d m_M_isCanon 105 [some (.inr (.inr 113)), some (.inl x1), some (.inl x2), some (.inl x3), some (.inl x4), some (.inl x5)] (r_.toList ++ []) w_) := by
  rw [Lm_unf P0 (M0 Ls) sp_281 3]
  rfl
set_option maxRecDepth 100000 in
theorem E_281_105 (Ls d : Nat) (x1 x2 x3 x4 x5 y0 : Int) (w : AW) : Lm P0 (M0 Ls) d m_M_isCanon 105 [some (.inr (.inr 113)), some (.inl x1), some (.inl x2), some (.inl x3), some (.inl x4), some (.inl x5)] [.inl y0] w = (if y0 = 0 then Lm P0 (M0 Ls) d m_M_isCanon 113 [some (.inr (.inr 113)), some (.inl x1), some (.inl x2), some (.inl x3), some (.inl x4), some (.inl x5)] [.inl 1] w else Lm P0 (M0 Ls) d m_M_isCanon 113 [some (.inr (.inr 113)), some (.inl x1), some (.inl x2), some (.inl x3), some (.inl x4), some (.inl x5)] [.inl 0] w) := by
  rw [Lm_unf P0 (M0 Ls) sp_281 5]
  rfl
set_option maxRecDepth 100000 in
theorem E_281_113 (Ls d : Nat) (x1 x2 x3 x4 x5 y0 : Int) (w : AW) : Lm P0 (M0 Ls) d m_M_isCanon 113 [some (.inr (.inr 113)), some (.inl x1), some (.inl x2), some (.inl x3), some (.inl x4), some (.inl x5)] [.inl y0] w = Lm P0 (M0 Ls) d m_M_isCanon 11 [some (.inr (.inr 113)), some (.inl x1), some (.inl x2), some (.inl x3), some (.inl y0), some (.inl (w32 (x5 + 1)))] [] w := by
  rw [Lm_unf P0 (M0 Ls) sp_281 5]
  rfl
set_option maxRecDepth 100000 in
theorem E_281_121 (Ls d : Nat) (x1 x2 x3 x4 x5 : Int) (w : AW) : Lm P0 (M0 Ls) d m_M_isCanon 121 [some (.inr (.inr 113)), some (.inl x1), some (.inl x2), some (.inl x3), some (.inl x4), some (.inl x5)] [] w = (if rok 3 x4 = true then some (some (.inl x4), w) else none) := by
  rw [Lm_unf P0 (M0 Ls) sp_281 3]
  rfl
def sp_282 : Nat → Bool := fun q => [0, 16, 21, 31, 52, 56, 67].contains q
set_option maxRecDepth 100000 in
theorem E_282_0 (Ls d : Nat) (p1 p2 : Int) (w : AW) : Lm P0 (M0 Ls) d m_M_delays 0 [some (.inr (.inr 113)), some (.inl p1), some (.inl p2), none, none] [] w = (if p2 = 0 then Lm P0 (M0 Ls) d m_M_delays 16 [some (.inr (.inr 113)), some (.inl p1), some (.inl p2), none, none] [.inl (-24), .inl p1] (wC w 112 0 0) else Lm P0 (M0 Ls) d m_M_delays 16 [some (.inr (.inr 113)), some (.inl p1), some (.inl p2), none, none] [.inl 0, .inl p1] (wC w 112 0 0)) := by
  rw [Lm_unf P0 (M0 Ls) sp_282 10]
  rfl
set_option maxRecDepth 100000 in
theorem E_282_16 (Ls d : Nat) (x1 x2 y0 y1 : Int) (w : AW) : Lm P0 (M0 Ls) d m_M_delays 16 [some (.inr (.inr 113)), some (.inl x1), some (.inl x2), none, none] [.inl y0, .inl y1] w = Lk P0 (M0 Ls) d m_M_within [.inl y1, .inl y0, .inl 24] w (fun r_ w_ => Lm P0 (M0 Ls) d m_M_delays 21 [some (.inr (.inr 113)), some (.inl x1), some (.inl x2), none, none] (r_.toList ++ []) w_) := by
  rw [Lm_unf P0 (M0 Ls) sp_282 3]
  rfl
set_option maxRecDepth 100000 in
theorem E_282_21 (Ls d : Nat) (x1 x2 y0 : Int) (w : AW) : Lm P0 (M0 Ls) d m_M_delays 21 [some (.inr (.inr 113)), some (.inl x1), some (.inl x2), none, none] [.inl y0] w = (if y0 = 0 then some (some (.inl (-1)), w) else Lm P0 (M0 Ls) d m_M_delays 31 [some (.inr (.inr 113)), some (.inl x1), some (.inl x2), some (.inl 0), some (.inl 1)] [] w) := by
  rw [Lm_unf P0 (M0 Ls) sp_282 7]
  rfl
set_option maxRecDepth 100000 in
theorem E_282_31 (Ls d : Nat) (x1 x2 x3 x4 : Int) (w : AW) : Lm P0 (M0 Ls) d m_M_delays 31 [some (.inr (.inr 113)), some (.inl x1), some (.inl x2), some (.inl x3), some (.inl x4)] [] w = (if x4 < 32 then (if x2 = 0 then Lm P0 (M0 Ls) d m_M_delays 52 [some (.inr (.inr 113)), some (.inl x1), some (.inl x2), some (.inl x3), some (.inl x4)] [.inl 4, .inl x4, .inr (.inr 113), .inl x3] w else Lm P0 (M0 Ls) d m_M_delays 52 [some (.inr (.inr 113)), some (.inl x1), some (.inl x2), some (.inl x3), some (.inl x4)] [.inl 6, .inl x4, .inr (.inr 113), .inl x3] w) else some (some (.inl x3), w)) := by
  rw [Lm_unf P0 (M0 Ls) sp_282 12]
  rfl
set_option maxRecDepth 100000 in
theorem E_282_52 (Ls d : Nat) (x1 x2 x3 x4 y0 y1 y3 : Int) (w : AW) : Lm P0 (M0 Ls) d m_M_delays 52 [some (.inr (.inr 113)), some (.inl x1), some (.inl x2), some (.inl x3), some (.inl x4)] [.inl y0, .inl y1, .inr (.inr 113), .inl y3] w = Lk P0 (M0 Ls) d m_M_isCanon [.inr (.inr 113), .inl y1, .inl y0, .inl x1] w (fun r_ w_ => Lm P0 (M0 Ls) d m_M_delays 56 [some (.inr (.inr 113)), some (.inl x1), some (.inl x2), some (.inl x3), some (.inl x4)] (r_.toList ++ [.inl y3]) w_) := by
  rw [Lm_unf P0 (M0 Ls) sp_282 3]
  rfl
set_option maxRecDepth 100000 in
theorem E_282_56 (Ls d : Nat) (x1 x2 x3 x4 y0 y1 : Int) (w : AW) : Lm P0 (M0 Ls) d m_M_delays 56 [some (.inr (.inr 113)), some (.inl x1), some (.inl x2), some (.inl x3), some (.inl x4)] [.inl y0, .inl y1] w = (if y0 = 0 then Lm P0 (M0 Ls) d m_M_delays 67 [some (.inr (.inr 113)), some (.inl x1), some (.inl x2), some (.inl x3), some (.inl x4)] [.inl 0, .inl y1] w else Lm P0 (M0 Ls) d m_M_delays 67 [some (.inr (.inr 113)), some (.inl x1), some (.inl x2), some (.inl x3), some (.inl x4)] [.inl (i32 (fun x y => x <<< (y &&& 31)) 1 x4), .inl y1] w) := by
  rw [Lm_unf P0 (M0 Ls) sp_282 7]
  rfl
set_option maxRecDepth 100000 in
theorem E_282_67 (Ls d : Nat) (x1 x2 x3 x4 y0 y1 : Int) (w : AW) : Lm P0 (M0 Ls) d m_M_delays 67 [some (.inr (.inr 113)), some (.inl x1), some (.inl x2), some (.inl x3), some (.inl x4)] [.inl y0, .inl y1] w = Lm P0 (M0 Ls) d m_M_delays 31 [some (.inr (.inr 113)), some (.inl x1), some (.inl x2), some (.inl (i32 (fun x y => x ||| y) y1 y0)), some (.inl (w32 (x4 + 1)))] [] w := by
  rw [Lm_unf P0 (M0 Ls) sp_282 6]
  rfl
def sp_283 : Nat → Bool := fun q => [0].contains q
set_option maxRecDepth 100000 in
theorem E_283_0 (Ls d : Nat) (p1 : Int) (w : AW) : Lm P0 (M0 Ls) d m_M_draw 0 [some (.inr (.inr 113)), some (.inl p1)] [] w = if p1 = 0 then none else some (some (.inl (w32 (Int.tmod (w64 (Int.tdiv (rd (wC w 112 45 (Int.tmod (w64 ((w64 ((rd w 112 45) * 1103515245)) + 12345)) 2147483648)) 112 45) 65536)) p1))), wC w 112 45 (Int.tmod (w64 ((w64 ((rd w 112 45) * 1103515245)) + 12345)) 2147483648)) := by
  rw [Lm_unf P0 (M0 Ls) sp_283 20]
  rfl
def sp_284 : Nat → Bool := fun q => [0, 13, 23, 34, 47, 50, 54, 55, 73, 91, 103, 106, 144, 159, 165, 174, 200, 211, 234, 245, 259, 263, 281, 283, 300].contains q
set_option maxRecDepth 100000 in
theorem E_284_0 (Ls d : Nat) (p1 p2 p3 : Int) (w : AW) : Lm P0 (M0 Ls) d m_M_choir 0 [some (.inr (.inr 113)), some (.inl p1), some (.inl p2), some (.inl p3), none, none, none, none, none] [] w = Lk P0 (M0 Ls) d m_M_within [.inl p1, .inl 0, .inl 9999] (wC w 112 0 0) (fun r_ w_ => Lm P0 (M0 Ls) d m_M_choir 13 [some (.inr (.inr 113)), some (.inl p1), some (.inl p2), some (.inl p3), none, none, none, none, none] (r_.toList ++ []) w_) := by
  rw [Lm_unf P0 (M0 Ls) sp_284 8]
  rfl
set_option maxRecDepth 100000 in
theorem E_284_13 (Ls d : Nat) (x1 x2 x3 y0 : Int) (w : AW) : Lm P0 (M0 Ls) d m_M_choir 13 [some (.inr (.inr 113)), some (.inl x1), some (.inl x2), some (.inl x3), none, none, none, none, none] [.inl y0] w = (if y0 = 0 then Lm P0 (M0 Ls) d m_M_choir 54 [some (.inr (.inr 113)), some (.inl x1), some (.inl x2), some (.inl x3), none, none, none, none, none] [] w else Lk P0 (M0 Ls) d m_M_within [.inl x2, .inl 2, .inl 6] w (fun r_ w_ => Lm P0 (M0 Ls) d m_M_choir 23 [some (.inr (.inr 113)), some (.inl x1), some (.inl x2), some (.inl x3), none, none, none, none, none] (r_.toList ++ []) w_)) := by
  rw [Lm_unf P0 (M0 Ls) sp_284 6]
  rfl
set_option maxRecDepth 100000 in
theorem E_284_23 (Ls d : Nat) (x1 x2 x3 y0 : Int) (w : AW) : Lm P0 (M0 Ls) d m_M_choir 23 [some (.inr (.inr 113)), some (.inl x1), some (.inl x2), some (.inl x3), none, none, none, none, none] [.inl y0] w = (if y0 = 0 then Lm P0 (M0 Ls) d m_M_choir 54 [some (.inr (.inr 113)), some (.inl x1), some (.inl x2), some (.inl x3), none, none, none, none, none] [] w else Lk P0 (M0 Ls) d m_M_within [.inl x3, .inl 0, .inl (w32 (1 + x2))] w (fun r_ w_ => Lm P0 (M0 Ls) d m_M_choir 34 [some (.inr (.inr 113)), some (.inl x1), some (.inl x2), some (.inl x3), none, none, none, none, none] (r_.toList ++ []) w_)) := by
  rw [Lm_unf P0 (M0 Ls) sp_284 8]
  rfl
set_option maxRecDepth 100000 in
theorem E_284_34 (Ls d : Nat) (x1 x2 x3 y0 : Int) (w : AW) : Lm P0 (M0 Ls) d m_M_choir 34 [some (.inr (.inr 113)), some (.inl x1), some (.inl x2), some (.inl x3), none, none, none, none, none] [.inl y0] w = (if y0 = 0 then Lk P0 (M0 Ls) d m_M_within [.inl x3, .inl 8, .inl (w32 (7 + x2))] w (fun r_ w_ => Lm P0 (M0 Ls) d m_M_choir 47 [some (.inr (.inr 113)), some (.inl x1), some (.inl x2), some (.inl x3), none, none, none, none, none] (r_.toList ++ []) w_) else Lm P0 (M0 Ls) d m_M_choir 50 [some (.inr (.inr 113)), some (.inl x1), some (.inl x2), some (.inl x3), none, none, none, none, none] [] w) := by
  rw [Lm_unf P0 (M0 Ls) sp_284 8]
  rfl
set_option maxRecDepth 100000 in
theorem E_284_47 (Ls d : Nat) (x1 x2 x3 y0 : Int) (w : AW) : Lm P0 (M0 Ls) d m_M_choir 47 [some (.inr (.inr 113)), some (.inl x1), some (.inl x2), some (.inl x3), none, none, none, none, none] [.inl y0] w = (if y0 = 0 then Lm P0 (M0 Ls) d m_M_choir 54 [some (.inr (.inr 113)), some (.inl x1), some (.inl x2), some (.inl x3), none, none, none, none, none] [] w else Lm P0 (M0 Ls) d m_M_choir 50 [some (.inr (.inr 113)), some (.inl x1), some (.inl x2), some (.inl x3), none, none, none, none, none] [] w) := by
  rw [Lm_unf P0 (M0 Ls) sp_284 3]
  rfl
set_option maxRecDepth 100000 in
theorem E_284_50 (Ls d : Nat) (x1 x2 x3 : Int) (w : AW) : Lm P0 (M0 Ls) d m_M_choir 50 [some (.inr (.inr 113)), some (.inl x1), some (.inl x2), some (.inl x3), none, none, none, none, none] [] w = Lm P0 (M0 Ls) d m_M_choir 55 [some (.inr (.inr 113)), some (.inl x1), some (.inl x2), some (.inl x3), none, none, none, none, none] [.inl 1] w := by
  rw [Lm_unf P0 (M0 Ls) sp_284 4]
  rfl
set_option maxRecDepth 100000 in
theorem E_284_54 (Ls d : Nat) (x1 x2 x3 : Int) (w : AW) : Lm P0 (M0 Ls) d m_M_choir 54 [some (.inr (.inr 113)), some (.inl x1), some (.inl x2), some (.inl x3), none, none, none, none, none] [] w = Lm P0 (M0 Ls) d m_M_choir 55 [some (.inr (.inr 113)), some (.inl x1), some (.inl x2), some (.inl x3), none, none, none, none, none] [.inl 0] w := by
  rw [Lm_unf P0 (M0 Ls) sp_284 3]
  rfl
set_option maxRecDepth 100000 in
theorem E_284_55 (Ls d : Nat) (x1 x2 x3 y0 : Int) (w : AW) : Lm P0 (M0 Ls) d m_M_choir 55 [some (.inr (.inr 113)), some (.inl x1), some (.inl x2), some (.inl x3), none, none, none, none, none] [.inl y0] w = (if y0 = 0 then some (some (.inl (-1)), w) else Lm P0 (M0 Ls) d m_M_choir 73 [some (.inr (.inr 113)), some (.inl x1), some (.inl x2), some (.inl x3), some (.inl y0), some (.inl 0), none, none, none] [] (wC w 112 45 x1)) := by
  rw [Lm_unf P0 (M0 Ls) sp_284 11]
  rfl
set_option maxRecDepth 100000 in
theorem E_284_73 (Ls d : Nat) (x1 x2 x3 x4 x5 : Int) (w : AW) : Lm P0 (M0 Ls) d m_M_choir 73 [some (.inr (.inr 113)), some (.inl x1), some (.inl x2), some (.inl x3), some (.inl x4), some (.inl x5), none, none, none] [] w = (if x5 < x2 then Lk P0 (M0 Ls) d m_M_draw [.inr (.inr 113), .inl 16] w (fun r_ w_ => Lm P0 (M0 Ls) d m_M_choir 91 [some (.inr (.inr 113)), some (.inl x1), some (.inl x2), some (.inl x3), some (.inl x4), some (.inl x5), none, none, none] (r_.toList ++ [.inl x5, .inr (.inr 136)]) w_) else (if 1 < x3 then (if x3 < 8 then (if 0 ≤ (w32 (x3 - 2)) ∧ (w32 (x3 - 2)) < 6 then Lm P0 (M0 Ls) d m_M_choir 144 [some (.inr (.inr 113)), some (.inl x1), some (.inl x2), some (.inl x3), some (.inl x4), some (.inl x5), none, none, none] [.inl (rd w 135 (w32 (x3 - 2)))] w else none) else (if 0 ≤ (w32 (x3 - 8)) ∧ (w32 (x3 - 8)) < 6 then Lm P0 (M0 Ls) d m_M_choir 144 [some (.inr (.inr 113)), some (.inl x1), some (.inl x2), some (.inl x3), some (.inl x4), some (.inl x5), none, none, none] [.inl (rd w 136 (w32 (x3 - 8)))] w else none)) else Lm P0 (M0 Ls) d m_M_choir 159 [some (.inr (.inr 113)), some (.inl x1), some (.inl x2), some (.inl x3), some (.inl x4), some (.inl 0), some (.inl (-1)), some (.inl 0), none] [] (wC w 112 24 x2))) := by
  rw [Lm_unf P0 (M0 Ls) sp_284 18]
  rfl
set_option maxRecDepth 100000 in
theorem E_284_91 (Ls d : Nat) (x1 x2 x3 x4 x5 y0 y1 : Int) (w : AW) : Lm P0 (M0 Ls) d m_M_choir 91 [some (.inr (.inr 113)), some (.inl x1), some (.inl x2), some (.inl x3), some (.inl x4), some (.inl x5), none, none, none] [.inl y0, .inl y1, .inr (.inr 136)] w = (if 0 ≤ y1 ∧ y1 < 6 then Lk P0 (M0 Ls) d m_M_notes [.inr (.inr 113)] (wC w 135 y1 y0) (fun r_ w_ => Lm P0 (M0 Ls) d m_M_choir 103 [some (.inr (.inr 113)), some (.inl x1), some (.inl x2), some (.inl x3), some (.inl x4), some (.inl x5), none, none, none] (r_.toList ++ [.inr (.inr 113), .inl x5, .inr (.inr 137)]) w_) else none) := by
  rw [Lm_unf P0 (M0 Ls) sp_284 8]
  rfl
set_option maxRecDepth 100000 in
theorem E_284_103 (Ls d : Nat) (x1 x2 x3 x4 x5 y0 y2 : Int) (w : AW) : Lm P0 (M0 Ls) d m_M_choir 103 [some (.inr (.inr 113)), some (.inl x1), some (.inl x2), some (.inl x3), some (.inl x4), some (.inl x5), none, none, none] [.inl y0, .inr (.inr 113), .inl y2, .inr (.inr 137)] w = Lk P0 (M0 Ls) d m_M_draw [.inr (.inr 113), .inl y0] w (fun r_ w_ => Lm P0 (M0 Ls) d m_M_choir 106 [some (.inr (.inr 113)), some (.inl x1), some (.inl x2), some (.inl x3), some (.inl x4), some (.inl x5), none, none, none] (r_.toList ++ [.inl y2, .inr (.inr 137)]) w_) := by
  rw [Lm_unf P0 (M0 Ls) sp_284 2]
  rfl
set_option maxRecDepth 100000 in
theorem E_284_106 (Ls d : Nat) (x1 x2 x3 x4 x5 y0 y1 : Int) (w : AW) : Lm P0 (M0 Ls) d m_M_choir 106 [some (.inr (.inr 113)), some (.inl x1), some (.inl x2), some (.inl x3), some (.inl x4), some (.inl x5), none, none, none] [.inl y0, .inl y1, .inr (.inr 137)] w = (if 0 ≤ y1 ∧ y1 < 6 then Lm P0 (M0 Ls) d m_M_choir 73 [some (.inr (.inr 113)), some (.inl x1), some (.inl x2), some (.inl x3), some (.inl x4), some (.inl (w32 (x5 + 1))), none, none, none] [] (wC w 136 y1 y0) else none) := by
  rw [Lm_unf P0 (M0 Ls) sp_284 5]
  rfl
set_option maxRecDepth 100000 in
theorem E_284_144 (Ls d : Nat) (x1 x2 x3 x4 x5 y0 : Int) (w : AW) : Lm P0 (M0 Ls) d m_M_choir 144 [some (.inr (.inr 113)), some (.inl x1), some (.inl x2), some (.inl x3), some (.inl x4), some (.inl x5), none, none, none] [.inl y0] w = some (some (.inl y0), w) := by
  rw [Lm_unf P0 (M0 Ls) sp_284 2]
  rfl
set_option maxRecDepth 100000 in
theorem E_284_159 (Ls d : Nat) (x1 x2 x3 x4 x5 x6 x7 : Int) (u8 : Option AV) (w : AW) : Lm P0 (M0 Ls) d m_M_choir 159 [some (.inr (.inr 113)), some (.inl x1), some (.inl x2), some (.inl x3), some (.inl x4), some (.inl x5), some (.inl x6), some (.inl x7), u8] [] w = Lk P0 (M0 Ls) d m_M_beats [.inr (.inr 113)] w (fun r_ w_ => Lm P0 (M0 Ls) d m_M_choir 165 [some (.inr (.inr 113)), some (.inl x1), some (.inl x2), some (.inl x3), some (.inl x4), some (.inl x5), some (.inl x6), some (.inl x7), u8] (r_.toList ++ [.inl x7]) w_) := by
  rw [Lm_unf P0 (M0 Ls) sp_284 4]
  rfl
set_option maxRecDepth 100000 in
theorem E_284_165 (Ls d : Nat) (x1 x2 x3 x4 x5 x6 x7 y0 y1 : Int) (u8 : Option AV) (w : AW) : Lm P0 (M0 Ls) d m_M_choir 165 [some (.inr (.inr 113)), some (.inl x1), some (.inl x2), some (.inl x3), some (.inl x4), some (.inl x5), some (.inl x6), some (.inl x7), u8] [.inl y0, .inl y1] w = (if y1 < (w32 (y0 + 16)) then Lm P0 (M0 Ls) d m_M_choir 174 [some (.inr (.inr 113)), some (.inl x1), some (.inl x2), some (.inl x3), some (.inl x4), some (.inl x5), some (.inl x6), some (.inl x7), some (.inl 0)] [] w else (if x3 = 0 then Lm P0 (M0 Ls) d m_M_choir 300 [some (.inr (.inr 113)), some (.inl x1), some (.inl x2), some (.inl x3), some (.inl x4), some (.inl x5), some (.inl x6), some (.inl x7), u8] [.inl x5] w else Lm P0 (M0 Ls) d m_M_choir 300 [some (.inr (.inr 113)), some (.inl x1), some (.inl x2), some (.inl x3), some (.inl x4), some (.inl x5), some (.inl x6), some (.inl x7), u8] [.inl x6] w)) := by
  rw [Lm_unf P0 (M0 Ls) sp_284 9]
  rfl
set_option maxRecDepth 100000 in
theorem E_284_174 (Ls d : Nat) (x1 x2 x3 x4 x5 x6 x7 x8 : Int) (w : AW) : Lm P0 (M0 Ls) d m_M_choir 174 [some (.inr (.inr 113)), some (.inl x1), some (.inl x2), some (.inl x3), some (.inl x4), some (.inl x5), some (.inl x6), some (.inl x7), some (.inl x8)] [] w = (if x8 < x2 then (if 0 ≤ x8 ∧ x8 < 6 then Lk P0 (M0 Ls) d m_M_sung [.inr (.inr 113), .inl (w32 (x7 - (rd w 135 x8)))] w (fun r_ w_ => Lm P0 (M0 Ls) d m_M_choir 200 [some (.inr (.inr 113)), some (.inl x1), some (.inl x2), some (.inl x3), some (.inl x4), some (.inl x5), some (.inl x6), some (.inl x7), some (.inl x8)] (r_.toList ++ [.inl x8, .inr (.inr 125)]) w_) else none) else Lk P0 (M0 Ls) d m_M_strongIn [.inr (.inr 113), .inl x7] w (fun r_ w_ => Lm P0 (M0 Ls) d m_M_choir 259 [some (.inr (.inr 113)), some (.inl x1), some (.inl x2), some (.inl x3), some (.inl x4), some (.inl x5), some (.inl x6), some (.inl x7), some (.inl x8)] (r_.toList ++ [.inr (.inr 113)]) w_)) := by
  rw [Lm_unf P0 (M0 Ls) sp_284 15]
  rfl
set_option maxRecDepth 100000 in
theorem E_284_200 (Ls d : Nat) (x1 x2 x3 x4 x5 x6 x7 x8 y0 y1 : Int) (w : AW) : Lm P0 (M0 Ls) d m_M_choir 200 [some (.inr (.inr 113)), some (.inl x1), some (.inl x2), some (.inl x3), some (.inl x4), some (.inl x5), some (.inl x6), some (.inl x7), some (.inl x8)] [.inl y0, .inl y1, .inr (.inr 125)] w = (if 0 ≤ x8 ∧ x8 < 6 then Lk P0 (M0 Ls) d m_M_shifted [.inl y0, .inl 4, .inl (rd w 136 x8)] w (fun r_ w_ => Lm P0 (M0 Ls) d m_M_choir 211 [some (.inr (.inr 113)), some (.inl x1), some (.inl x2), some (.inl x3), some (.inl x4), some (.inl x5), some (.inl x6), some (.inl x7), some (.inl x8)] (r_.toList ++ [.inl y1, .inr (.inr 125)]) w_) else none) := by
  rw [Lm_unf P0 (M0 Ls) sp_284 7]
  rfl
set_option maxRecDepth 100000 in
theorem E_284_211 (Ls d : Nat) (x1 x2 x3 x4 x5 x6 x7 x8 y0 y1 : Int) (w : AW) : Lm P0 (M0 Ls) d m_M_choir 211 [some (.inr (.inr 113)), some (.inl x1), some (.inl x2), some (.inl x3), some (.inl x4), some (.inl x5), some (.inl x6), some (.inl x7), some (.inl x8)] [.inl y0, .inl y1, .inr (.inr 125)] w = (if 0 ≤ y1 ∧ y1 < 9 then (if 0 ≤ x8 ∧ x8 < 6 then Lk P0 (M0 Ls) d m_M_sung [.inr (.inr 113), .inl (w32 ((w32 (x7 - 1)) - (rd (wC w 124 y1 y0) 135 x8)))] (wC w 124 y1 y0) (fun r_ w_ => Lm P0 (M0 Ls) d m_M_choir 234 [some (.inr (.inr 113)), some (.inl x1), some (.inl x2), some (.inl x3), some (.inl x4), some (.inl x5), some (.inl x6), some (.inl x7), some (.inl x8)] (r_.toList ++ [.inl x8, .inr (.inr 126)]) w_) else none) else none) := by
  rw [Lm_unf P0 (M0 Ls) sp_284 15]
  rfl
set_option maxRecDepth 100000 in
theorem E_284_234 (Ls d : Nat) (x1 x2 x3 x4 x5 x6 x7 x8 y0 y1 : Int) (w : AW) : Lm P0 (M0 Ls) d m_M_choir 234 [some (.inr (.inr 113)), some (.inl x1), some (.inl x2), some (.inl x3), some (.inl x4), some (.inl x5), some (.inl x6), some (.inl x7), some (.inl x8)] [.inl y0, .inl y1, .inr (.inr 126)] w = (if 0 ≤ x8 ∧ x8 < 6 then Lk P0 (M0 Ls) d m_M_shifted [.inl y0, .inl 4, .inl (rd w 136 x8)] w (fun r_ w_ => Lm P0 (M0 Ls) d m_M_choir 245 [some (.inr (.inr 113)), some (.inl x1), some (.inl x2), some (.inl x3), some (.inl x4), some (.inl x5), some (.inl x6), some (.inl x7), some (.inl x8)] (r_.toList ++ [.inl y1, .inr (.inr 126)]) w_) else none) := by
  rw [Lm_unf P0 (M0 Ls) sp_284 7]
  rfl
set_option maxRecDepth 100000 in
theorem E_284_245 (Ls d : Nat) (x1 x2 x3 x4 x5 x6 x7 x8 y0 y1 : Int) (w : AW) : Lm P0 (M0 Ls) d m_M_choir 245 [some (.inr (.inr 113)), some (.inl x1), some (.inl x2), some (.inl x3), some (.inl x4), some (.inl x5), some (.inl x6), some (.inl x7), some (.inl x8)] [.inl y0, .inl y1, .inr (.inr 126)] w = (if 0 ≤ y1 ∧ y1 < 9 then Lm P0 (M0 Ls) d m_M_choir 174 [some (.inr (.inr 113)), some (.inl x1), some (.inl x2), some (.inl x3), some (.inl x4), some (.inl x5), some (.inl x6), some (.inl x7), some (.inl (w32 (x8 + 1)))] [] (wC w 125 y1 y0) else none) := by
  rw [Lm_unf P0 (M0 Ls) sp_284 5]
  rfl
set_option maxRecDepth 100000 in
theorem E_284_259 (Ls d : Nat) (x1 x2 x3 x4 x5 x6 x7 x8 y0 : Int) (w : AW) : Lm P0 (M0 Ls) d m_M_choir 259 [some (.inr (.inr 113)), some (.inl x1), some (.inl x2), some (.inl x3), some (.inl x4), some (.inl x5), some (.inl x6), some (.inl x7), some (.inl x8)] [.inl y0, .inr (.inr 113)] w = Lk P0 (M0 Ls) d m_M_isAgainst [.inr (.inr 113), .inl y0, .inl 0] w (fun r_ w_ => Lm P0 (M0 Ls) d m_M_choir 263 [some (.inr (.inr 113)), some (.inl x1), some (.inl x2), some (.inl x3), some (.inl x4), some (.inl x5), some (.inl x6), some (.inl x7), some (.inl x8)] (r_.toList ++ []) w_) := by
  rw [Lm_unf P0 (M0 Ls) sp_284 3]
  rfl
set_option maxRecDepth 100000 in
theorem E_284_263 (Ls d : Nat) (x1 x2 x3 x4 x5 x6 x7 x8 y0 : Int) (w : AW) : Lm P0 (M0 Ls) d m_M_choir 263 [some (.inr (.inr 113)), some (.inl x1), some (.inl x2), some (.inl x3), some (.inl x4), some (.inl x5), some (.inl x6), some (.inl x7), some (.inl x8)] [.inl y0] w = (if y0 = 0 then Lm P0 (M0 Ls) d m_M_choir 283 [some (.inr (.inr 113)), some (.inl x1), some (.inl x2), some (.inl x3), some (.inl x4), some (.inl x5), some (.inl x6), some (.inl x7), some (.inl x8)] [] w else (if x6 < 0 then Lm P0 (M0 Ls) d m_M_choir 281 [some (.inr (.inr 113)), some (.inl x1), some (.inl x2), some (.inl x3), some (.inl x4), some (.inl (w32 (x5 + 1))), some (.inl x6), some (.inl x7), some (.inl x8)] [.inl x7] w else Lm P0 (M0 Ls) d m_M_choir 281 [some (.inr (.inr 113)), some (.inl x1), some (.inl x2), some (.inl x3), some (.inl x4), some (.inl (w32 (x5 + 1))), some (.inl x6), some (.inl x7), some (.inl x8)] [.inl x6] w)) := by
  rw [Lm_unf P0 (M0 Ls) sp_284 8]
  rfl
set_option maxRecDepth 100000 in
theorem E_284_281 (Ls d : Nat) (x1 x2 x3 x4 x5 x6 x7 x8 y0 : Int) (w : AW) : Lm P0 (M0 Ls) d m_M_choir 281 [some (.inr (.inr 113)), some (.inl x1), some (.inl x2), some (.inl x3), some (.inl x4), some (.inl x5), some (.inl x6), some (.inl x7), some (.inl x8)] [.inl y0] w = Lm P0 (M0 Ls) d m_M_choir 283 [some (.inr (.inr 113)), some (.inl x1), some (.inl x2), some (.inl x3), some (.inl x4), some (.inl x5), some (.inl y0), some (.inl x7), some (.inl x8)] [] w := by
  rw [Lm_unf P0 (M0 Ls) sp_284 3]
  rfl
set_option maxRecDepth 100000 in
theorem E_284_283 (Ls d : Nat) (x1 x2 x3 x4 x5 x6 x7 x8 : Int) (w : AW) : Lm P0 (M0 Ls) d m_M_choir 283 [some (.inr (.inr 113)), some (.inl x1), some (.inl x2), some (.inl x3), some (.inl x4), some (.inl x5), some (.inl x6), some (.inl x7), some (.inl x8)] [] w = Lm P0 (M0 Ls) d m_M_choir 159 [some (.inr (.inr 113)), some (.inl x1), some (.inl x2), some (.inl x3), some (.inl x4), some (.inl x5), some (.inl x6), some (.inl (w32 (x7 + 1))), some (.inl x8)] [] w := by
  rw [Lm_unf P0 (M0 Ls) sp_284 4]
  rfl
set_option maxRecDepth 100000 in
theorem E_284_300 (Ls d : Nat) (x1 x2 x3 x4 x5 x6 x7 y0 : Int) (u8 : Option AV) (w : AW) : Lm P0 (M0 Ls) d m_M_choir 300 [some (.inr (.inr 113)), some (.inl x1), some (.inl x2), some (.inl x3), some (.inl x4), some (.inl x5), some (.inl x6), some (.inl x7), u8] [.inl y0] w = some (some (.inl y0), w) := by
  rw [Lm_unf P0 (M0 Ls) sp_284 2]
  rfl
def sp_285 : Nat → Bool := fun q => [0, 15].contains q
set_option maxRecDepth 100000 in
theorem E_285_0 (Ls d : Nat) (w : AW) : Lm P0 (M0 Ls) d m_M_clear 0 [some (.inr (.inr 113)), none] [] w = Lm P0 (M0 Ls) d m_M_clear 15 [some (.inr (.inr 113)), some (.inl 0)] [] (wC (wC w 112 0 0) 118 54 0) := by
  rw [Lm_unf P0 (M0 Ls) sp_285 12]
  rfl
set_option maxRecDepth 100000 in
theorem E_285_15 (Ls d : Nat) (x1 : Int) (w : AW) : Lm P0 (M0 Ls) d m_M_clear 15 [some (.inr (.inr 113)), some (.inl x1)] [] w = (if x1 < 60 then (if 0 ≤ (w32 (255 + x1)) ∧ (w32 (255 + x1)) < 1980 then Lm P0 (M0 Ls) d m_M_clear 15 [some (.inr (.inr 113)), some (.inl (w32 (x1 + 1)))] [] (wC w 118 (w32 (255 + x1)) 0) else none) else some (some (.inl 1), w)) := by
  rw [Lm_unf P0 (M0 Ls) sp_285 14]
  rfl
def sp_286 : Nat → Bool := fun q => [0, 11, 27, 29, 41, 64].contains q
set_option maxRecDepth 100000 in
theorem E_286_0 (Ls d : Nat) (p1 p2 : Int) (w : AW) : Lm P0 (M0 Ls) d m_M_mark 0 [some (.inr (.inr 113)), some (.inl p1), some (.inl p2)] [] w = Lk P0 (M0 Ls) d m_M_within [.inl p1, .inl 0, .inl 3] (wC w 112 0 0) (fun r_ w_ => Lm P0 (M0 Ls) d m_M_mark 11 [some (.inr (.inr 113)), some (.inl p1), some (.inl p2)] (r_.toList ++ []) w_) := by
  rw [Lm_unf P0 (M0 Ls) sp_286 8]
  rfl
set_option maxRecDepth 100000 in
theorem E_286_11 (Ls d : Nat) (x1 x2 y0 : Int) (w : AW) : Lm P0 (M0 Ls) d m_M_mark 11 [some (.inr (.inr 113)), some (.inl x1), some (.inl x2)] [.inl y0] w = (if y0 = 0 then Lm P0 (M0 Ls) d m_M_mark 27 [some (.inr (.inr 113)), some (.inl x1), some (.inl x2)] [] w else (if x2 = 0 then Lm P0 (M0 Ls) d m_M_mark 29 [some (.inr (.inr 113)), some (.inl x1), some (.inl x2)] [] w else (if 0 ≤ x1 ∧ x1 < 4 then (if (rd w 137 x1) = 0 then Lm P0 (M0 Ls) d m_M_mark 27 [some (.inr (.inr 113)), some (.inl x1), some (.inl x2)] [] w else Lm P0 (M0 Ls) d m_M_mark 29 [some (.inr (.inr 113)), some (.inl x1), some (.inl x2)] [] w) else none))) := by
  rw [Lm_unf P0 (M0 Ls) sp_286 10]
  rfl
set_option maxRecDepth 100000 in
theorem E_286_27 (Ls d : Nat) (x1 x2 : Int) (w : AW) : Lm P0 (M0 Ls) d m_M_mark 27 [some (.inr (.inr 113)), some (.inl x1), some (.inl x2)] [] w = some (some (.inl 0), w) := by
  rw [Lm_unf P0 (M0 Ls) sp_286 3]
  rfl
set_option maxRecDepth 100000 in
theorem E_286_29 (Ls d : Nat) (x1 x2 : Int) (w : AW) : Lm P0 (M0 Ls) d m_M_mark 29 [some (.inr (.inr 113)), some (.inl x1), some (.inl x2)] [] w = (if x2 = 0 then (if 0 ≤ x1 ∧ x1 < 4 then Lk P0 (M0 Ls) d m_M_carry [.inr (.inr 113), .inl 0, .inl (w32 (2 + x1))] (wC w 137 x1 1) (fun r_ w_ => Lm P0 (M0 Ls) d m_M_mark 64 [some (.inr (.inr 113)), some (.inl x1), some (.inl x2)] (r_.toList ++ []) w_) else none) else Lk P0 (M0 Ls) d m_M_carry [.inr (.inr 113), .inl (w32 (2 + x1)), .inl 0] w (fun r_ w_ => Lm P0 (M0 Ls) d m_M_mark 41 [some (.inr (.inr 113)), some (.inl x1), some (.inl x2)] (r_.toList ++ []) w_)) := by
  rw [Lm_unf P0 (M0 Ls) sp_286 14]
  rfl
set_option maxRecDepth 100000 in
theorem E_286_41 (Ls d : Nat) (x1 x2 : Int) (w : AW) : Lm P0 (M0 Ls) d m_M_mark 41 [some (.inr (.inr 113)), some (.inl x1), some (.inl x2)] [] w = Lm P0 (M0 Ls) d m_M_mark 64 [some (.inr (.inr 113)), some (.inl x1), some (.inl x2)] [] (wC w 112 16 1) := by
  rw [Lm_unf P0 (M0 Ls) sp_286 6]
  rfl
set_option maxRecDepth 100000 in
theorem E_286_64 (Ls d : Nat) (x1 x2 : Int) (w : AW) : Lm P0 (M0 Ls) d m_M_mark 64 [some (.inr (.inr 113)), some (.inl x1), some (.inl x2)] [] w = some (some (.inl 1), w) := by
  rw [Lm_unf P0 (M0 Ls) sp_286 3]
  rfl
def sp_287 : Nat → Bool := fun q => [0, 64, 69, 74, 103, 106, 131].contains q
set_option maxRecDepth 100000 in
theorem E_287_0 (Ls d : Nat) (p1 : Int) (w : AW) : Lm P0 (M0 Ls) d m_M_count 0 [some (.inr (.inr 113)), some (.inl p1), none, none] [] w = (if p1 = 0 then Lk P0 (M0 Ls) d m_M_notes [.inr (.inr 113)] (wC w 112 0 0) (fun r_ w_ => Lm P0 (M0 Ls) d m_M_count 64 [some (.inr (.inr 113)), some (.inl p1), some (.inl 0), none] (r_.toList ++ []) w_) else (if p1 = 1 then Lk P0 (M0 Ls) d m_M_meter [.inr (.inr 113)] (wC w 112 0 0) (fun r_ w_ => Lm P0 (M0 Ls) d m_M_count 69 [some (.inr (.inr 113)), some (.inl p1), some (.inl 0), none] (r_.toList ++ []) w_) else (if p1 = 2 then Lk P0 (M0 Ls) d m_M_echoes [.inr (.inr 113)] (wC w 112 0 0) (fun r_ w_ => Lm P0 (M0 Ls) d m_M_count 74 [some (.inr (.inr 113)), some (.inl p1), some (.inl 0), none] (r_.toList ++ []) w_) else (if p1 = 3 then some (some (.inl (rd (wC w 112 0 0) 118 43)), wC w 112 0 0) else (if p1 = 4 then some (some (.inl (rd (wC w 112 0 0) 118 48)), wC w 112 0 0) else (if p1 = 5 then some (some (.inl (rd (wC w 112 0 0) 118 51)), wC w 112 0 0) else (if p1 = 6 then Lk P0 (M0 Ls) d m_M_beats [.inr (.inr 113)] (wC w 112 0 0) (fun r_ w_ => Lm P0 (M0 Ls) d m_M_count 103 [some (.inr (.inr 113)), some (.inl p1), some (.inl 0), none] (r_.toList ++ []) w_) else (if p1 = 7 then Lm P0 (M0 Ls) d m_M_count 106 [some (.inr (.inr 113)), some (.inl p1), some (.inl 0), some (.inl 0)] [] (wC w 112 0 0) else (if p1 = 8 then some (some (.inl (rd (wC w 112 0 0) 112 2)), wC w 112 0 0) else some (some (.inl (-1)), wC w 112 0 0)))))))))) := by
  rw [Lm_unf P0 (M0 Ls) sp_287 13]
  rfl
set_option maxRecDepth 100000 in
theorem E_287_64 (Ls d : Nat) (x1 x2 y0 : Int) (w : AW) : Lm P0 (M0 Ls) d m_M_count 64 [some (.inr (.inr 113)), some (.inl x1), some (.inl x2), none] [.inl y0] w = some (some (.inl y0), w) := by
  rw [Lm_unf P0 (M0 Ls) sp_287 2]
  rfl
set_option maxRecDepth 100000 in
theorem E_287_69 (Ls d : Nat) (x1 x2 y0 : Int) (w : AW) : Lm P0 (M0 Ls) d m_M_count 69 [some (.inr (.inr 113)), some (.inl x1), some (.inl x2), none] [.inl y0] w = some (some (.inl y0), w) := by
  rw [Lm_unf P0 (M0 Ls) sp_287 2]
  rfl
set_option maxRecDepth 100000 in
theorem E_287_74 (Ls d : Nat) (x1 x2 y0 : Int) (w : AW) : Lm P0 (M0 Ls) d m_M_count 74 [some (.inr (.inr 113)), some (.inl x1), some (.inl x2), none] [.inl y0] w = some (some (.inl y0), w) := by
  rw [Lm_unf P0 (M0 Ls) sp_287 2]
  rfl
set_option maxRecDepth 100000 in
theorem E_287_103 (Ls d : Nat) (x1 x2 y0 : Int) (w : AW) : Lm P0 (M0 Ls) d m_M_count 103 [some (.inr (.inr 113)), some (.inl x1), some (.inl x2), none] [.inl y0] w = some (some (.inl y0), w) := by
  rw [Lm_unf P0 (M0 Ls) sp_287 2]
  rfl
set_option maxRecDepth 100000 in
theorem E_287_106 (Ls d : Nat) (x1 x2 x3 : Int) (w : AW) : Lm P0 (M0 Ls) d m_M_count 106 [some (.inr (.inr 113)), some (.inl x1), some (.inl x2), some (.inl x3)] [] w = (if x3 < 60 then (if 0 ≤ (w32 (255 + x3)) ∧ (w32 (255 + x3)) < 1980 then (if 0 < (rd w 118 (w32 (255 + x3))) then Lm P0 (M0 Ls) d m_M_count 131 [some (.inr (.inr 113)), some (.inl x1), some (.inl x2), some (.inl x3)] [.inl 1, .inl x2] w else Lm P0 (M0 Ls) d m_M_count 131 [some (.inr (.inr 113)), some (.inl x1), some (.inl x2), some (.inl x3)] [.inl 0, .inl x2] w) else none) else some (some (.inl x2), w)) := by
  rw [Lm_unf P0 (M0 Ls) sp_287 15]
  rfl
set_option maxRecDepth 100000 in
theorem E_287_131 (Ls d : Nat) (x1 x2 x3 y0 y1 : Int) (w : AW) : Lm P0 (M0 Ls) d m_M_count 131 [some (.inr (.inr 113)), some (.inl x1), some (.inl x2), some (.inl x3)] [.inl y0, .inl y1] w = Lm P0 (M0 Ls) d m_M_count 106 [some (.inr (.inr 113)), some (.inl x1), some (.inl (w32 (y1 + y0))), some (.inl (w32 (x3 + 1)))] [] w := by
  rw [Lm_unf P0 (M0 Ls) sp_287 6]
  rfl
