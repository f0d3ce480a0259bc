def sp_249 : Nat → Bool := fun q => [0, 9].contains q
set_option maxRecDepth 100000 in
theorem E_249_0 (Ls d : Nat) (w : AW) : Lm P0 (M0 Ls) d m_M_depth 0 [some (.inr (.inr 113))] [] w = Lk P0 (M0 Ls) d m_M_findDepth [.inr (.inr 113)] (wC w 112 0 0) (fun r_ w_ => Lm P0 (M0 Ls) d m_M_depth 9 [some (.inr (.inr 113))] (r_.toList ++ []) w_) := by
  rw [Lm_unf P0 (M0 Ls) sp_249 6]
  rfl
set_option maxRecDepth 100000 in
theorem E_249_9 (Ls d : Nat) (y0 : Int) (w : AW) : Lm P0 (M0 Ls) d m_M_depth 9 [some (.inr (.inr 113))] [.inl y0] w = some (some (.inl y0), w) := by
  rw [Lm_unf P0 (M0 Ls) sp_249 2]
  rfl
def sp_250 : Nat → Bool := fun q => [0, 5, 51].contains q
set_option maxRecDepth 100000 in
theorem E_250_0 (Ls d : Nat) (p1 p2 : Int) (w : AW) : Lm P0 (M0 Ls) d m_M_ago 0 [some (.inr (.inr 113)), some (.inl p1), some (.inl p2), none, none] [] w = Lm P0 (M0 Ls) d m_M_ago 5 [some (.inr (.inr 113)), some (.inl p1), some (.inl p2), some (.inl p1), some (.inl 1)] [] w := by
  rw [Lm_unf P0 (M0 Ls) sp_250 6]
  rfl
set_option maxRecDepth 100000 in
theorem E_250_5 (Ls d : Nat) (x1 x2 x3 x4 : Int) (w : AW) : Lm P0 (M0 Ls) d m_M_ago 5 [some (.inr (.inr 113)), some (.inl x1), some (.inl x2), some (.inl x3), some (.inl x4)] [] w = (if x4 < x2 then if (rd w 112 30) = 0 then none else Lm P0 (M0 Ls) d m_M_ago 5 [some (.inr (.inr 113)), some (.inl x1), some (.inl x2), some (.inl (w32 (Int.tdiv x3 (rd w 112 30)))), some (.inl (w32 (x4 + 1)))] [] w else if (rd w 112 30) = 0 then none else (if (Int.tmod x3 (rd w 112 30)) = (w32 ((rd w 112 30) - 1)) then Lm P0 (M0 Ls) d m_M_ago 51 [some (.inr (.inr 113)), some (.inl x1), some (.inl x2), some (.inl x3), some (.inl (Int.tmod x3 (rd w 112 30)))] [.inl (-2000)] w else Lm P0 (M0 Ls) d m_M_ago 51 [some (.inr (.inr 113)), some (.inl x1), some (.inl x2), some (.inl x3), some (.inl (Int.tmod x3 (rd w 112 30)))] [.inl (Int.tmod x3 (rd w 112 30))] w)) := by
  rw [Lm_unf P0 (M0 Ls) sp_250 18]
  rfl
set_option maxRecDepth 100000 in
theorem E_250_51 (Ls d : Nat) (x1 x2 x3 x4 y0 : Int) (w : AW) : Lm P0 (M0 Ls) d m_M_ago 51 [some (.inr (.inr 113)), some (.inl x1), some (.inl x2), some (.inl x3), some (.inl x4)] [.inl y0] w = some (some (.inl y0), w) := by
  rw [Lm_unf P0 (M0 Ls) sp_250 2]
  rfl
def sp_251 : Nat → Bool := fun q => [0].contains q
set_option maxRecDepth 100000 in
theorem E_251_0 (Ls d : Nat) (p1 p2 : Int) (w : AW) : Lm P0 (M0 Ls) d m_M_laterState 0 [some (.inr (.inr 113)), some (.inl p1), some (.inl p2)] [] w = if (rd w 112 33) = 0 then none else some (some (.inl (w32 ((w32 ((Int.tmod p1 (rd w 112 33)) * (rd w 112 30))) + p2))), w) := by
  rw [Lm_unf P0 (M0 Ls) sp_251 11]
  rfl
def sp_252 : Nat → Bool := fun q => [0].contains q
set_option maxRecDepth 100000 in
theorem E_252_0 (Ls d : Nat) (p1 p2 p3 : Int) (w : AW) : Lm P0 (M0 Ls) d m_M_keepAt 0 [some (.inl p1), some (.inl p2), some (.inl p3)] [] w = some (some (.inl (w32 ((w32 ((w32 ((w32 (p1 * 4096)) + p2)) * 13)) + p3))), w) := by
  rw [Lm_unf P0 (M0 Ls) sp_252 11]
  rfl
def sp_253 : Nat → Bool := fun q => [0, 4, 40, 52, 95, 101, 111, 141, 153, 157, 163, 173, 190, 197, 204, 207, 234, 241, 248, 251, 257, 274, 280, 288, 299, 305, 313].contains q
set_option maxRecDepth 100000 in
theorem E_253_0 (Ls d : Nat) (w : AW) : Lm P0 (M0 Ls) d m_M_findTables 0 [some (.inr (.inr 113)), none, none, none, none, none] [] w = Lk P0 (M0 Ls) d m_M_findDepth [.inr (.inr 113)] w (fun r_ w_ => Lm P0 (M0 Ls) d m_M_findTables 4 [some (.inr (.inr 113)), none, none, none, none, none] (r_.toList ++ []) w_) := by
  rw [Lm_unf P0 (M0 Ls) sp_253 3]
  rfl
set_option maxRecDepth 100000 in
theorem E_253_4 (Ls d : Nat) (y0 : Int) (w : AW) : Lm P0 (M0 Ls) d m_M_findTables 4 [some (.inr (.inr 113)), none, none, none, none, none] [.inl y0] w = (if y0 < 0 then some (some (.inl 0), w) else (if (rd w 112 16) = 0 then some (some (.inl 1), w) else Lk P0 (M0 Ls) d m_M_notes [.inr (.inr 113)] (wC (wC (wC w 112 16 0) 112 39 0) 112 29 y0) (fun r_ w_ => Lm P0 (M0 Ls) d m_M_findTables 40 [some (.inr (.inr 113)), some (.inl y0), none, none, none, none] (r_.toList ++ [.inr (.inr 113)]) w_))) := by
  rw [Lm_unf P0 (M0 Ls) sp_253 19]
  rfl
set_option maxRecDepth 100000 in
theorem E_253_40 (Ls d : Nat) (x1 y0 : Int) (w : AW) : Lm P0 (M0 Ls) d m_M_findTables 40 [some (.inr (.inr 113)), some (.inl x1), none, none, none, none] [.inl y0, .inr (.inr 113)] w = Lm P0 (M0 Ls) d m_M_findTables 52 [some (.inr (.inr 113)), some (.inl x1), some (.inl 1), none, none, none] [] (wC (wC w 112 30 (w32 (y0 + 1))) 112 33 1) := by
  rw [Lm_unf P0 (M0 Ls) sp_253 10]
  rfl
set_option maxRecDepth 100000 in
theorem E_253_52 (Ls d : Nat) (x1 x2 : Int) (w : AW) : Lm P0 (M0 Ls) d m_M_findTables 52 [some (.inr (.inr 113)), some (.inl x1), some (.inl x2), none, none, none] [] w = (if x2 < x1 then Lm P0 (M0 Ls) d m_M_findTables 52 [some (.inr (.inr 113)), some (.inl x1), some (.inl (w32 (x2 + 1))), none, none, none] [] (wC w 112 33 (w32 ((rd w 112 33) * (rd w 112 30)))) else Lk P0 (M0 Ls) d m_M_echoes [.inr (.inr 113)] (wC w 112 31 (w32 ((rd w 112 33) * (rd w 112 30)))) (fun r_ w_ => Lm P0 (M0 Ls) d m_M_findTables 95 [some (.inr (.inr 113)), some (.inl x1), some (.inl x2), none, none, none] (r_.toList ++ [.inl 1, .inr (.inr 113)]) w_)) := by
  rw [Lm_unf P0 (M0 Ls) sp_253 15]
  rfl
set_option maxRecDepth 100000 in
theorem E_253_95 (Ls d : Nat) (x1 x2 y0 y1 : Int) (w : AW) : Lm P0 (M0 Ls) d m_M_findTables 95 [some (.inr (.inr 113)), some (.inl x1), some (.inl x2), none, none, none] [.inl y0, .inl y1, .inr (.inr 113)] w = Lm P0 (M0 Ls) d m_M_findTables 101 [some (.inr (.inr 113)), some (.inl x1), some (.inl 0), none, none, none] [] (wC w 112 24 (w32 (y1 + y0))) := by
  rw [Lm_unf P0 (M0 Ls) sp_253 6]
  rfl
set_option maxRecDepth 100000 in
theorem E_253_101 (Ls d : Nat) (x1 x2 : Int) (u3 u4 u5 : Option AV) (w : AW) : Lm P0 (M0 Ls) d m_M_findTables 101 [some (.inr (.inr 113)), some (.inl x1), some (.inl x2), u3, u4, u5] [] w = (if x2 < (rd w 112 31) then Lm P0 (M0 Ls) d m_M_findTables 111 [some (.inr (.inr 113)), some (.inl x1), some (.inl x2), some (.inl 0), u4, u5] [] w else some (some (.inl 1), w)) := by
  rw [Lm_unf P0 (M0 Ls) sp_253 8]
  rfl
set_option maxRecDepth 100000 in
theorem E_253_111 (Ls d : Nat) (x1 x2 x3 : Int) (u4 u5 : Option AV) (w : AW) : Lm P0 (M0 Ls) d m_M_findTables 111 [some (.inr (.inr 113)), some (.inl x1), some (.inl x2), some (.inl x3), u4, u5] [] w = (if x3 < (rd w 112 30) then (if x3 = (w32 ((rd w 112 30) - 1)) then Lm P0 (M0 Ls) d m_M_findTables 141 [some (.inr (.inr 113)), some (.inl x1), some (.inl x2), some (.inl x3), u4, u5] [.inl (-2000), .inl 0, .inr (.inr 125)] w else Lm P0 (M0 Ls) d m_M_findTables 141 [some (.inr (.inr 113)), some (.inl x1), some (.inl x2), some (.inl x3), u4, u5] [.inl x3, .inl 0, .inr (.inr 125)] w) else Lm P0 (M0 Ls) d m_M_findTables 101 [some (.inr (.inr 113)), some (.inl x1), some (.inl (w32 (x2 + 1))), some (.inl x3), u4, u5] [] w) := by
  rw [Lm_unf P0 (M0 Ls) sp_253 17]
  rfl
set_option maxRecDepth 100000 in
theorem E_253_141 (Ls d : Nat) (x1 x2 x3 y0 y1 : Int) (u4 u5 : Option AV) (w : AW) : Lm P0 (M0 Ls) d m_M_findTables 141 [some (.inr (.inr 113)), some (.inl x1), some (.inl x2), some (.inl x3), u4, u5] [.inl y0, .inl y1, .inr (.inr 125)] w = (if 0 ≤ y1 ∧ y1 < 9 then Lk P0 (M0 Ls) d m_M_ago [.inr (.inr 113), .inl x2, .inl 1] (wC w 124 y1 y0) (fun r_ w_ => Lm P0 (M0 Ls) d m_M_findTables 153 [some (.inr (.inr 113)), some (.inl x1), some (.inl x2), some (.inl x3), u4, u5] (r_.toList ++ [.inl 0, .inr (.inr 126)]) w_) else none) := by
  rw [Lm_unf P0 (M0 Ls) sp_253 9]
  rfl
set_option maxRecDepth 100000 in
theorem E_253_153 (Ls d : Nat) (x1 x2 x3 y0 y1 : Int) (u4 u5 : Option AV) (w : AW) : Lm P0 (M0 Ls) d m_M_findTables 153 [some (.inr (.inr 113)), some (.inl x1), some (.inl x2), some (.inl x3), u4, u5] [.inl y0, .inl y1, .inr (.inr 126)] w = (if 0 ≤ y1 ∧ y1 < 9 then Lm P0 (M0 Ls) d m_M_findTables 157 [some (.inr (.inr 113)), some (.inl x1), some (.inl x2), some (.inl x3), some (.inl 0), u5] [] (wC w 125 y1 y0) else none) := by
  rw [Lm_unf P0 (M0 Ls) sp_253 5]
  rfl
set_option maxRecDepth 100000 in
theorem E_253_157 (Ls d : Nat) (x1 x2 x3 x4 : Int) (u5 : Option AV) (w : AW) : Lm P0 (M0 Ls) d m_M_findTables 157 [some (.inr (.inr 113)), some (.inl x1), some (.inl x2), some (.inl x3), some (.inl x4), u5] [] w = Lk P0 (M0 Ls) d m_M_echoes [.inr (.inr 113)] w (fun r_ w_ => Lm P0 (M0 Ls) d m_M_findTables 163 [some (.inr (.inr 113)), some (.inl x1), some (.inl x2), some (.inl x3), some (.inl x4), u5] (r_.toList ++ [.inl x4]) w_) := by
  rw [Lm_unf P0 (M0 Ls) sp_253 4]
  rfl
set_option maxRecDepth 100000 in
theorem E_253_163 (Ls d : Nat) (x1 x2 x3 x4 y0 y1 : Int) (u5 : Option AV) (w : AW) : Lm P0 (M0 Ls) d m_M_findTables 163 [some (.inr (.inr 113)), some (.inl x1), some (.inl x2), some (.inl x3), some (.inl x4), u5] [.inl y0, .inl y1] w = (if y1 < y0 then Lk P0 (M0 Ls) d m_M_echoOf [.inr (.inr 113), .inl x4, .inl 0] w (fun r_ w_ => Lm P0 (M0 Ls) d m_M_findTables 173 [some (.inr (.inr 113)), some (.inl x1), some (.inl x2), some (.inl x3), some (.inl x4), u5] (r_.toList ++ []) w_) else Lk P0 (M0 Ls) d m_M_keepAt [.inl 0, .inl x2, .inl x3] w (fun r_ w_ => Lm P0 (M0 Ls) d m_M_findTables 274 [some (.inr (.inr 113)), some (.inl x1), some (.inl x2), some (.inl x3), some (.inl x4), u5] (r_.toList ++ [.inr (.inr 127)]) w_)) := by
  rw [Lm_unf P0 (M0 Ls) sp_253 8]
  rfl
set_option maxRecDepth 100000 in
theorem E_253_173 (Ls d : Nat) (x1 x2 x3 x4 y0 : Int) (u5 : Option AV) (w : AW) : Lm P0 (M0 Ls) d m_M_findTables 173 [some (.inr (.inr 113)), some (.inl x1), some (.inl x2), some (.inl x3), some (.inl x4), u5] [.inl y0] w = Lk P0 (M0 Ls) d m_M_ago [.inr (.inr 113), .inl x2, .inl y0] w (fun r_ w_ => Lm P0 (M0 Ls) d m_M_findTables 190 [some (.inr (.inr 113)), some (.inl x1), some (.inl x2), some (.inl x3), some (.inl x4), some (.inl y0)] (r_.toList ++ [.inl (w32 (1 + x4)), .inr (.inr 125)]) w_) := by
  rw [Lm_unf P0 (M0 Ls) sp_253 11]
  rfl
set_option maxRecDepth 100000 in
theorem E_253_190 (Ls d : Nat) (x1 x2 x3 x4 x5 y0 y1 : Int) (w : AW) : Lm P0 (M0 Ls) d m_M_findTables 190 [some (.inr (.inr 113)), some (.inl x1), some (.inl x2), some (.inl x3), some (.inl x4), some (.inl x5)] [.inl y0, .inl y1, .inr (.inr 125)] w = Lk P0 (M0 Ls) d m_M_echoOf [.inr (.inr 113), .inl x4, .inl 1] w (fun r_ w_ => Lm P0 (M0 Ls) d m_M_findTables 197 [some (.inr (.inr 113)), some (.inl x1), some (.inl x2), some (.inl x3), some (.inl x4), some (.inl x5)] (r_.toList ++ [.inl y0, .inl y1, .inr (.inr 125)]) w_) := by
  rw [Lm_unf P0 (M0 Ls) sp_253 5]
  rfl
set_option maxRecDepth 100000 in
theorem E_253_197 (Ls d : Nat) (x1 x2 x3 x4 x5 y0 y1 y2 : Int) (w : AW) : Lm P0 (M0 Ls) d m_M_findTables 197 [some (.inr (.inr 113)), some (.inl x1), some (.inl x2), some (.inl x3), some (.inl x4), some (.inl x5)] [.inl y0, .inl y1, .inl y2, .inr (.inr 125)] w = Lk P0 (M0 Ls) d m_M_echoOf [.inr (.inr 113), .inl x4, .inl 2] w (fun r_ w_ => Lm P0 (M0 Ls) d m_M_findTables 204 [some (.inr (.inr 113)), some (.inl x1), some (.inl x2), some (.inl x3), some (.inl x4), some (.inl x5)] (r_.toList ++ [.inl y0, .inl y1, .inl y2, .inr (.inr 125)]) w_) := by
  rw [Lm_unf P0 (M0 Ls) sp_253 5]
  rfl
set_option maxRecDepth 100000 in
theorem E_253_204 (Ls d : Nat) (x1 x2 x3 x4 x5 y0 y1 y2 y3 : Int) (w : AW) : Lm P0 (M0 Ls) d m_M_findTables 204 [some (.inr (.inr 113)), some (.inl x1), some (.inl x2), some (.inl x3), some (.inl x4), some (.inl x5)] [.inl y0, .inl y1, .inl y2, .inl y3, .inr (.inr 125)] w = Lk P0 (M0 Ls) d m_M_shifted [.inl y2, .inl y1, .inl y0] w (fun r_ w_ => Lm P0 (M0 Ls) d m_M_findTables 207 [some (.inr (.inr 113)), some (.inl x1), some (.inl x2), some (.inl x3), some (.inl x4), some (.inl x5)] (r_.toList ++ [.inl y3, .inr (.inr 125)]) w_) := by
  rw [Lm_unf P0 (M0 Ls) sp_253 2]
  rfl
set_option maxRecDepth 100000 in
theorem E_253_207 (Ls d : Nat) (x1 x2 x3 x4 x5 y0 y1 : Int) (w : AW) : Lm P0 (M0 Ls) d m_M_findTables 207 [some (.inr (.inr 113)), some (.inl x1), some (.inl x2), some (.inl x3), some (.inl x4), some (.inl x5)] [.inl y0, .inl y1, .inr (.inr 125)] w = (if 0 ≤ y1 ∧ y1 < 9 then (if x5 < (rd (wC w 124 y1 y0) 112 29) then Lk P0 (M0 Ls) d m_M_ago [.inr (.inr 113), .inl x2, .inl (w32 (x5 + 1))] (wC w 124 y1 y0) (fun r_ w_ => Lm P0 (M0 Ls) d m_M_findTables 234 [some (.inr (.inr 113)), some (.inl x1), some (.inl x2), some (.inl x3), some (.inl x4), some (.inl x5)] (r_.toList ++ [.inl (w32 (1 + x4)), .inr (.inr 126)]) w_) else Lm P0 (M0 Ls) d m_M_findTables 257 [some (.inr (.inr 113)), some (.inl x1), some (.inl x2), some (.inl x3), some (.inl x4), some (.inl x5)] [.inl (-2000), .inl (w32 (1 + x4)), .inr (.inr 126)] (wC w 124 y1 y0)) else none) := by
  rw [Lm_unf P0 (M0 Ls) sp_253 17]
  rfl
set_option maxRecDepth 100000 in
theorem E_253_234 (Ls d : Nat) (x1 x2 x3 x4 x5 y0 y1 : Int) (w : AW) : Lm P0 (M0 Ls) d m_M_findTables 234 [some (.inr (.inr 113)), some (.inl x1), some (.inl x2), some (.inl x3), some (.inl x4), some (.inl x5)] [.inl y0, .inl y1, .inr (.inr 126)] w = Lk P0 (M0 Ls) d m_M_echoOf [.inr (.inr 113), .inl x4, .inl 1] w (fun r_ w_ => Lm P0 (M0 Ls) d m_M_findTables 241 [some (.inr (.inr 113)), some (.inl x1), some (.inl x2), some (.inl x3), some (.inl x4), some (.inl x5)] (r_.toList ++ [.inl y0, .inl y1, .inr (.inr 126)]) w_) := by
  rw [Lm_unf P0 (M0 Ls) sp_253 5]
  rfl
set_option maxRecDepth 100000 in
theorem E_253_241 (Ls d : Nat) (x1 x2 x3 x4 x5 y0 y1 y2 : Int) (w : AW) : Lm P0 (M0 Ls) d m_M_findTables 241 [some (.inr (.inr 113)), some (.inl x1), some (.inl x2), some (.inl x3), some (.inl x4), some (.inl x5)] [.inl y0, .inl y1, .inl y2, .inr (.inr 126)] w = Lk P0 (M0 Ls) d m_M_echoOf [.inr (.inr 113), .inl x4, .inl 2] w (fun r_ w_ => Lm P0 (M0 Ls) d m_M_findTables 248 [some (.inr (.inr 113)), some (.inl x1), some (.inl x2), some (.inl x3), some (.inl x4), some (.inl x5)] (r_.toList ++ [.inl y0, .inl y1, .inl y2, .inr (.inr 126)]) w_) := by
  rw [Lm_unf P0 (M0 Ls) sp_253 5]
  rfl
set_option maxRecDepth 100000 in
theorem E_253_248 (Ls d : Nat) (x1 x2 x3 x4 x5 y0 y1 y2 y3 : Int) (w : AW) : Lm P0 (M0 Ls) d m_M_findTables 248 [some (.inr (.inr 113)), some (.inl x1), some (.inl x2), some (.inl x3), some (.inl x4), some (.inl x5)] [.inl y0, .inl y1, .inl y2, .inl y3, .inr (.inr 126)] w = Lk P0 (M0 Ls) d m_M_shifted [.inl y2, .inl y1, .inl y0] w (fun r_ w_ => Lm P0 (M0 Ls) d m_M_findTables 251 [some (.inr (.inr 113)), some (.inl x1), some (.inl x2), some (.inl x3), some (.inl x4), some (.inl x5)] (r_.toList ++ [.inl y3, .inr (.inr 126)]) w_) := by
  rw [Lm_unf P0 (M0 Ls) sp_253 2]
  rfl
set_option maxRecDepth 100000 in
theorem E_253_251 (Ls d : Nat) (x1 x2 x3 x4 x5 y0 y1 : Int) (w : AW) : Lm P0 (M0 Ls) d m_M_findTables 251 [some (.inr (.inr 113)), some (.inl x1), some (.inl x2), some (.inl x3), some (.inl x4), some (.inl x5)] [.inl y0, .inl y1, .inr (.inr 126)] w = Lm P0 (M0 Ls) d m_M_findTables 257 [some (.inr (.inr 113)), some (.inl x1), some (.inl x2), some (.inl x3), some (.inl x4), some (.inl x5)] [.inl y0, .inl y1, .inr (.inr 126)] w := by
  rw [Lm_unf P0 (M0 Ls) sp_253 3]
  rfl
set_option maxRecDepth 100000 in
theorem E_253_257 (Ls d : Nat) (x1 x2 x3 x4 x5 y0 y1 : Int) (w : AW) : Lm P0 (M0 Ls) d m_M_findTables 257 [some (.inr (.inr 113)), some (.inl x1), some (.inl x2), some (.inl x3), some (.inl x4), some (.inl x5)] [.inl y0, .inl y1, .inr (.inr 126)] w = (if 0 ≤ y1 ∧ y1 < 9 then Lm P0 (M0 Ls) d m_M_findTables 157 [some (.inr (.inr 113)), some (.inl x1), some (.inl x2), some (.inl x3), some (.inl (w32 (x4 + 1))), some (.inl x5)] [] (wC w 125 y1 y0) else none) := by
  rw [Lm_unf P0 (M0 Ls) sp_253 5]
  rfl
set_option maxRecDepth 100000 in
theorem E_253_274 (Ls d : Nat) (x1 x2 x3 x4 y0 : Int) (u5 : Option AV) (w : AW) : Lm P0 (M0 Ls) d m_M_findTables 274 [some (.inr (.inr 113)), some (.inl x1), some (.inl x2), some (.inl x3), some (.inl x4), u5] [.inl y0, .inr (.inr 127)] w = Lk P0 (M0 Ls) d m_M_isAgainst [.inr (.inr 113), .inl 0, .inl 1] w (fun r_ w_ => Lm P0 (M0 Ls) d m_M_findTables 280 [some (.inr (.inr 113)), some (.inl x1), some (.inl x2), some (.inl x3), some (.inl x4), u5] (r_.toList ++ [.inl y0, .inr (.inr 127)]) w_) := by
  rw [Lm_unf P0 (M0 Ls) sp_253 5]
  rfl
set_option maxRecDepth 100000 in
theorem E_253_280 (Ls d : Nat) (x1 x2 x3 x4 y0 y1 : Int) (u5 : Option AV) (w : AW) : Lm P0 (M0 Ls) d m_M_findTables 280 [some (.inr (.inr 113)), some (.inl x1), some (.inl x2), some (.inl x3), some (.inl x4), u5] [.inl y0, .inl y1, .inr (.inr 127)] w = (if y0 = 0 then Lm P0 (M0 Ls) d m_M_findTables 288 [some (.inr (.inr 113)), some (.inl x1), some (.inl x2), some (.inl x3), some (.inl x4), u5] [.inl 1, .inl y1, .inr (.inr 127)] w else Lm P0 (M0 Ls) d m_M_findTables 288 [some (.inr (.inr 113)), some (.inl x1), some (.inl x2), some (.inl x3), some (.inl x4), u5] [.inl 0, .inl y1, .inr (.inr 127)] w) := by
  rw [Lm_unf P0 (M0 Ls) sp_253 5]
  rfl
set_option maxRecDepth 100000 in
theorem E_253_288 (Ls d : Nat) (x1 x2 x3 x4 y0 y1 : Int) (u5 : Option AV) (w : AW) : Lm P0 (M0 Ls) d m_M_findTables 288 [some (.inr (.inr 113)), some (.inl x1), some (.inl x2), some (.inl x3), some (.inl x4), u5] [.inl y0, .inl y1, .inr (.inr 127)] w = (if 0 ≤ y1 ∧ y1 < 106496 then (if y0 = 0 ∨ y0 = 1 then Lk P0 (M0 Ls) d m_M_keepAt [.inl 1, .inl x2, .inl x3] (wC w 126 y1 y0) (fun r_ w_ => Lm P0 (M0 Ls) d m_M_findTables 299 [some (.inr (.inr 113)), some (.inl x1), some (.inl x2), some (.inl x3), some (.inl x4), u5] (r_.toList ++ [.inr (.inr 127)]) w_) else none) else none) := by
  rw [Lm_unf P0 (M0 Ls) sp_253 8]
  rfl
set_option maxRecDepth 100000 in
theorem E_253_299 (Ls d : Nat) (x1 x2 x3 x4 y0 : Int) (u5 : Option AV) (w : AW) : Lm P0 (M0 Ls) d m_M_findTables 299 [some (.inr (.inr 113)), some (.inl x1), some (.inl x2), some (.inl x3), some (.inl x4), u5] [.inl y0, .inr (.inr 127)] w = Lk P0 (M0 Ls) d m_M_isAgainst [.inr (.inr 113), .inl 1, .inl 1] w (fun r_ w_ => Lm P0 (M0 Ls) d m_M_findTables 305 [some (.inr (.inr 113)), some (.inl x1), some (.inl x2), some (.inl x3), some (.inl x4), u5] (r_.toList ++ [.inl y0, .inr (.inr 127)]) w_) := by
  rw [Lm_unf P0 (M0 Ls) sp_253 5]
  rfl
set_option maxRecDepth 100000 in
theorem E_253_305 (Ls d : Nat) (x1 x2 x3 x4 y0 y1 : Int) (u5 : Option AV) (w : AW) : Lm P0 (M0 Ls) d m_M_findTables 305 [some (.inr (.inr 113)), some (.inl x1), some (.inl x2), some (.inl x3), some (.inl x4), u5] [.inl y0, .inl y1, .inr (.inr 127)] w = (if y0 = 0 then Lm P0 (M0 Ls) d m_M_findTables 313 [some (.inr (.inr 113)), some (.inl x1), some (.inl x2), some (.inl x3), some (.inl x4), u5] [.inl 1, .inl y1, .inr (.inr 127)] w else Lm P0 (M0 Ls) d m_M_findTables 313 [some (.inr (.inr 113)), some (.inl x1), some (.inl x2), some (.inl x3), some (.inl x4), u5] [.inl 0, .inl y1, .inr (.inr 127)] w) := by
  rw [Lm_unf P0 (M0 Ls) sp_253 5]
  rfl
set_option maxRecDepth 100000 in
theorem E_253_313 (Ls d : Nat) (x1 x2 x3 x4 y0 y1 : Int) (u5 : Option AV) (w : AW) : Lm P0 (M0 Ls) d m_M_findTables 313 [some (.inr (.inr 113)), some (.inl x1), some (.inl x2), some (.inl x3), some (.inl x4), u5] [.inl y0, .inl y1, .inr (.inr 127)] w = (if 0 ≤ y1 ∧ y1 < 106496 then (if y0 = 0 ∨ y0 = 1 then Lm P0 (M0 Ls) d m_M_findTables 111 [some (.inr (.inr 113)), some (.inl x1), some (.inl x2), some (.inl (w32 (x3 + 1))), some (.inl x4), u5] [] (wC w 126 y1 y0) else none) else none) := by
  rw [Lm_unf P0 (M0 Ls) sp_253 5]
  rfl
def sp_254 : Nat → Bool := fun q => [0, 9, 14].contains q
set_option maxRecDepth 100000 in
theorem E_254_0 (Ls d : Nat) (p1 p2 p3 : Int) (w : AW) : Lm P0 (M0 Ls) d m_M_isKept 0 [some (.inr (.inr 113)), some (.inl p1), some (.inl p2), some (.inl p3)] [] w = Lk P0 (M0 Ls) d m_M_strongIn [.inr (.inr 113), .inl p1] w (fun r_ w_ => Lm P0 (M0 Ls) d m_M_isKept 9 [some (.inr (.inr 113)), some (.inl p1), some (.inl p2), some (.inl p3)] (r_.toList ++ [.inr (.inr 127)]) w_) := by
  rw [Lm_unf P0 (M0 Ls) sp_254 6]
  rfl
set_option maxRecDepth 100000 in
theorem E_254_9 (Ls d : Nat) (x1 x2 x3 y0 : Int) (w : AW) : Lm P0 (M0 Ls) d m_M_isKept 9 [some (.inr (.inr 113)), some (.inl x1), some (.inl x2), some (.inl x3)] [.inl y0, .inr (.inr 127)] w = Lk P0 (M0 Ls) d m_M_keepAt [.inl y0, .inl x2, .inl x3] w (fun r_ w_ => Lm P0 (M0 Ls) d m_M_isKept 14 [some (.inr (.inr 113)), some (.inl x1), some (.inl x2), some (.inl x3)] (r_.toList ++ [.inr (.inr 127)]) w_) := by
  rw [Lm_unf P0 (M0 Ls) sp_254 4]
  rfl
set_option maxRecDepth 100000 in
theorem E_254_14 (Ls d : Nat) (x1 x2 x3 y0 : Int) (w : AW) : Lm P0 (M0 Ls) d m_M_isKept 14 [some (.inr (.inr 113)), some (.inl x1), some (.inl x2), some (.inl x3)] [.inl y0, .inr (.inr 127)] w = (if 0 ≤ y0 ∧ y0 < 106496 then (if rok 3 (rd w 126 y0) = true then some (some (.inl (rd w 126 y0)), w) else none) else none) := by
  rw [Lm_unf P0 (M0 Ls) sp_254 3]
  rfl
def sp_255 : Nat → Bool := fun q => [0].contains q
set_option maxRecDepth 100000 in
theorem E_255_0 (Ls d : Nat) (w : AW) : Lm P0 (M0 Ls) d m_M_silence 0 [some (.inr (.inr 113))] [] w = some (some (.inl (w32 ((rd w 112 31) - 1))), w) := by
  rw [Lm_unf P0 (M0 Ls) sp_255 6]
  rfl
def sp_256 : Nat → Bool := fun q => [0, 8, 37, 50, 57].contains q
set_option maxRecDepth 100000 in
theorem E_256_0 (Ls d : Nat) (p1 p2 : Int) (w : AW) : Lm P0 (M0 Ls) d m_M_endsWell 0 [some (.inr (.inr 113)), some (.inl p1), some (.inl p2), none, none, none] [] w = Lm P0 (M0 Ls) d m_M_endsWell 8 [some (.inr (.inr 113)), some (.inl p1), some (.inl p2), some (.inl p2), some (.inl 1), some (.inl p1)] [] w := by
  rw [Lm_unf P0 (M0 Ls) sp_256 8]
  rfl
set_option maxRecDepth 100000 in
theorem E_256_8 (Ls d : Nat) (x1 x2 x3 x4 x5 : Int) (w : AW) : Lm P0 (M0 Ls) d m_M_endsWell 8 [some (.inr (.inr 113)), some (.inl x1), some (.inl x2), some (.inl x3), some (.inl x4), some (.inl x5)] [] w = (if x5 < (w32 (x1 + (rd w 112 29))) then (if x4 = 0 then Lm P0 (M0 Ls) d m_M_endsWell 57 [some (.inr (.inr 113)), some (.inl x1), some (.inl x2), some (.inl x3), some (.inl x4), some (.inl x5)] [] w else Lk P0 (M0 Ls) d m_M_isKept [.inr (.inr 113), .inl x5, .inl x3, .inl (w32 ((rd w 112 30) - 1))] w (fun r_ w_ => Lm P0 (M0 Ls) d m_M_endsWell 37 [some (.inr (.inr 113)), some (.inl x1), some (.inl x2), some (.inl x3), some (.inl x4), some (.inl x5)] (r_.toList ++ []) w_)) else Lm P0 (M0 Ls) d m_M_endsWell 57 [some (.inr (.inr 113)), some (.inl x1), some (.inl x2), some (.inl x3), some (.inl x4), some (.inl x5)] [] w) := by
  rw [Lm_unf P0 (M0 Ls) sp_256 17]
  rfl
set_option maxRecDepth 100000 in
theorem E_256_37 (Ls d : Nat) (x1 x2 x3 x4 x5 y0 : Int) (w : AW) : Lm P0 (M0 Ls) d m_M_endsWell 37 [some (.inr (.inr 113)), some (.inl x1), some (.inl x2), some (.inl x3), some (.inl x4), some (.inl x5)] [.inl y0] w = Lk P0 (M0 Ls) d m_M_laterState [.inr (.inr 113), .inl x3, .inl (w32 ((rd w 112 30) - 1))] w (fun r_ w_ => Lm P0 (M0 Ls) d m_M_endsWell 50 [some (.inr (.inr 113)), some (.inl x1), some (.inl x2), some (.inl x3), some (.inl y0), some (.inl x5)] (r_.toList ++ []) w_) := by
  rw [Lm_unf P0 (M0 Ls) sp_256 9]
  rfl
set_option maxRecDepth 100000 in
theorem E_256_50 (Ls d : Nat) (x1 x2 x3 x4 x5 y0 : Int) (w : AW) : Lm P0 (M0 Ls) d m_M_endsWell 50 [some (.inr (.inr 113)), some (.inl x1), some (.inl x2), some (.inl x3), some (.inl x4), some (.inl x5)] [.inl y0] w = Lm P0 (M0 Ls) d m_M_endsWell 8 [some (.inr (.inr 113)), some (.inl x1), some (.inl x2), some (.inl y0), some (.inl x4), some (.inl (w32 (x5 + 1)))] [] w := by
  rw [Lm_unf P0 (M0 Ls) sp_256 5]
  rfl
set_option maxRecDepth 100000 in
theorem E_256_57 (Ls d : Nat) (x1 x2 x3 x4 x5 : Int) (w : AW) : Lm P0 (M0 Ls) d m_M_endsWell 57 [some (.inr (.inr 113)), some (.inl x1), some (.inl x2), some (.inl x3), some (.inl x4), some (.inl x5)] [] w = (if rok 3 x4 = true then some (some (.inl x4), w) else none) := by
  rw [Lm_unf P0 (M0 Ls) sp_256 3]
  rfl
def sp_257 : Nat → Bool := fun q => [0, 68].contains q
set_option maxRecDepth 100000 in
theorem E_257_0 (Ls d : Nat) (p1 p2 : Int) (w : AW) : Lm P0 (M0 Ls) d m_M_mayBe 0 [some (.inr (.inr 113)), some (.inl p1), some (.inl p2), none] [] w = (if 0 ≤ (w32 (255 + p1)) ∧ (w32 (255 + p1)) < 1980 then (if (rd w 118 (w32 (255 + p1))) = 0 then (if p2 < (w32 ((rd w 112 30) - 1)) then Lm P0 (M0 Ls) d m_M_mayBe 68 [some (.inr (.inr 113)), some (.inl p1), some (.inl p2), some (.inl (rd w 118 (w32 (255 + p1))))] [.inl 1] w else Lm P0 (M0 Ls) d m_M_mayBe 68 [some (.inr (.inr 113)), some (.inl p1), some (.inl p2), some (.inl (rd w 118 (w32 (255 + p1))))] [.inl 0] w) else (if (rd w 118 (w32 (255 + p1))) = 1 then (if p2 = (w32 ((rd w 112 30) - 1)) then Lm P0 (M0 Ls) d m_M_mayBe 68 [some (.inr (.inr 113)), some (.inl p1), some (.inl p2), some (.inl (rd w 118 (w32 (255 + p1))))] [.inl 1] w else Lm P0 (M0 Ls) d m_M_mayBe 68 [some (.inr (.inr 113)), some (.inl p1), some (.inl p2), some (.inl (rd w 118 (w32 (255 + p1))))] [.inl 0] w) else (if p2 = (w32 ((rd w 118 (w32 (255 + p1))) - 2)) then Lm P0 (M0 Ls) d m_M_mayBe 68 [some (.inr (.inr 113)), some (.inl p1), some (.inl p2), some (.inl (rd w 118 (w32 (255 + p1))))] [.inl 1] w else Lm P0 (M0 Ls) d m_M_mayBe 68 [some (.inr (.inr 113)), some (.inl p1), some (.inl p2), some (.inl (rd w 118 (w32 (255 + p1))))] [.inl 0] w))) else none) := by
  rw [Lm_unf P0 (M0 Ls) sp_257 22]
  rfl
set_option maxRecDepth 100000 in
theorem E_257_68 (Ls d : Nat) (x1 x2 x3 y0 : Int) (w : AW) : Lm P0 (M0 Ls) d m_M_mayBe 68 [some (.inr (.inr 113)), some (.inl x1), some (.inl x2), some (.inl x3)] [.inl y0] w = (if rok 3 y0 = true then some (some (.inl y0), w) else none) := by
  rw [Lm_unf P0 (M0 Ls) sp_257 2]
  rfl
def sp_258 : Nat → Bool := fun q => [0, 7].contains q
set_option maxRecDepth 100000 in
theorem E_258_0 (Ls d : Nat) (p1 : Int) (w : AW) : Lm P0 (M0 Ls) d m_M_isLong 0 [some (.inl p1)] [] w = Lk P0 (M0 Ls) d m_M_within [.inl p1, .inl 1, .inl 60] w (fun r_ w_ => Lm P0 (M0 Ls) d m_M_isLong 7 [some (.inl p1)] (r_.toList ++ []) w_) := by
  rw [Lm_unf P0 (M0 Ls) sp_258 5]
  rfl
set_option maxRecDepth 100000 in
theorem E_258_7 (Ls d : Nat) (x0 y0 : Int) (w : AW) : Lm P0 (M0 Ls) d m_M_isLong 7 [some (.inl x0)] [.inl y0] w = (if rok 3 y0 = true then some (some (.inl y0), w) else none) := by
  rw [Lm_unf P0 (M0 Ls) sp_258 2]
  rfl
def sp_259 : Nat → Bool := fun q => [0, 9, 19, 26, 29, 35, 69, 74, 84, 98, 110, 127, 147].contains q
set_option maxRecDepth 100000 in
theorem E_259_0 (Ls d : Nat) (p1 p2 : Int) (w : AW) : Lm P0 (M0 Ls) d m_M_many 0 [some (.inr (.inr 113)), some (.inl p1), some (.inl p2), none, none, none, none, none, none] [] w = Lk P0 (M0 Ls) d m_M_isLong [.inl p1] (wC w 112 0 0) (fun r_ w_ => Lm P0 (M0 Ls) d m_M_many 9 [some (.inr (.inr 113)), some (.inl p1), some (.inl p2), none, none, none, none, none, none] (r_.toList ++ []) w_) := by
  rw [Lm_unf P0 (M0 Ls) sp_259 6]
  rfl
set_option maxRecDepth 100000 in
theorem E_259_9 (Ls d : Nat) (x1 x2 y0 : Int) (w : AW) : Lm P0 (M0 Ls) d m_M_many 9 [some (.inr (.inr 113)), some (.inl x1), some (.inl x2), none, none, none, none, none, none] [.inl y0] w = (if y0 = 0 then Lm P0 (M0 Ls) d m_M_many 29 [some (.inr (.inr 113)), some (.inl x1), some (.inl x2), none, none, none, none, none, none] [] w else Lk P0 (M0 Ls) d m_M_within [.inl x2, .inl 0, .inl 7] w (fun r_ w_ => Lm P0 (M0 Ls) d m_M_many 19 [some (.inr (.inr 113)), some (.inl x1), some (.inl x2), none, none, none, none, none, none] (r_.toList ++ []) w_)) := by
  rw [Lm_unf P0 (M0 Ls) sp_259 6]
  rfl
set_option maxRecDepth 100000 in
theorem E_259_19 (Ls d : Nat) (x1 x2 y0 : Int) (w : AW) : Lm P0 (M0 Ls) d m_M_many 19 [some (.inr (.inr 113)), some (.inl x1), some (.inl x2), none, none, none, none, none, none] [.inl y0] w = (if y0 = 0 then Lm P0 (M0 Ls) d m_M_many 29 [some (.inr (.inr 113)), some (.inl x1), some (.inl x2), none, none, none, none, none, none] [] w else Lk P0 (M0 Ls) d m_M_findTables [.inr (.inr 113)] w (fun r_ w_ => Lm P0 (M0 Ls) d m_M_many 26 [some (.inr (.inr 113)), some (.inl x1), some (.inl x2), none, none, none, none, none, none] (r_.toList ++ []) w_)) := by
  rw [Lm_unf P0 (M0 Ls) sp_259 4]
  rfl
set_option maxRecDepth 100000 in
theorem E_259_26 (Ls d : Nat) (x1 x2 y0 : Int) (w : AW) : Lm P0 (M0 Ls) d m_M_many 26 [some (.inr (.inr 113)), some (.inl x1), some (.inl x2), none, none, none, none, none, none] [.inl y0] w = (if y0 = 0 then Lm P0 (M0 Ls) d m_M_many 29 [some (.inr (.inr 113)), some (.inl x1), some (.inl x2), none, none, none, none, none, none] [] w else Lm P0 (M0 Ls) d m_M_many 35 [some (.inr (.inr 113)), some (.inl x1), some (.inl x2), some (.inl 0), none, none, none, none, none] [] w) := by
  rw [Lm_unf P0 (M0 Ls) sp_259 5]
  rfl
set_option maxRecDepth 100000 in
theorem E_259_29 (Ls d : Nat) (x1 x2 : Int) (w : AW) : Lm P0 (M0 Ls) d m_M_many 29 [some (.inr (.inr 113)), some (.inl x1), some (.inl x2), none, none, none, none, none, none] [] w = some (some (.inr (.inl (-1))), w) := by
  rw [Lm_unf P0 (M0 Ls) sp_259 3]
  rfl
set_option maxRecDepth 100000 in
theorem E_259_35 (Ls d : Nat) (x1 x2 x3 : Int) (w : AW) : Lm P0 (M0 Ls) d m_M_many 35 [some (.inr (.inr 113)), some (.inl x1), some (.inl x2), some (.inl x3), none, none, none, none, none] [] w = (if x3 < (w32 (8 * (rd w 112 31))) then (if 0 ≤ x3 ∧ x3 < 32768 then Lm P0 (M0 Ls) d m_M_many 35 [some (.inr (.inr 113)), some (.inl x1), some (.inl x2), some (.inl (w32 (x3 + 1))), none, none, none, none, none] [] (wC w 127 x3 0) else none) else Lk P0 (M0 Ls) d m_M_silence [.inr (.inr 113)] w (fun r_ w_ => Lm P0 (M0 Ls) d m_M_many 69 [some (.inr (.inr 113)), some (.inl x1), some (.inl x2), some (.inl x3), none, none, none, none, none] (r_.toList ++ [.inl 8, .inr (.inr 128)]) w_)) := by
  rw [Lm_unf P0 (M0 Ls) sp_259 15]
  rfl
set_option maxRecDepth 100000 in
theorem E_259_69 (Ls d : Nat) (x1 x2 x3 y0 y1 : Int) (w : AW) : Lm P0 (M0 Ls) d m_M_many 69 [some (.inr (.inr 113)), some (.inl x1), some (.inl x2), some (.inl x3), none, none, none, none, none] [.inl y0, .inl y1, .inr (.inr 128)] w = (if 0 ≤ (w32 (y1 * y0)) ∧ (w32 (y1 * y0)) < 32768 then Lm P0 (M0 Ls) d m_M_many 74 [some (.inr (.inr 113)), some (.inl x1), some (.inl x2), some (.inl 0), none, none, none, none, none] [] (wC w 127 (w32 (y1 * y0)) 1) else none) := by
  rw [Lm_unf P0 (M0 Ls) sp_259 7]
  rfl
set_option maxRecDepth 100000 in
theorem E_259_74 (Ls d : Nat) (x1 x2 x3 : Int) (w : AW) : Lm P0 (M0 Ls) d m_M_many 74 [some (.inr (.inr 113)), some (.inl x1), some (.inl x2), some (.inl x3), none, none, none, none, none] [] w = (if x3 < x1 then Lk P0 (M0 Ls) d m_M_goesOn [.inr (.inr 113), .inl x3] w (fun r_ w_ => Lm P0 (M0 Ls) d m_M_many 84 [some (.inr (.inr 113)), some (.inl x1), some (.inl x2), some (.inl x3), none, none, none, none, none] (r_.toList ++ []) w_) else Lm P0 (M0 Ls) d m_M_many 98 [some (.inr (.inr 113)), some (.inl x1), some (.inl x2), some (.inr (.inl 0)), none, some (.inr (.inl 0)), none, some (.inl 0), none] [] w) := by
  rw [Lm_unf P0 (M0 Ls) sp_259 11]
  rfl
set_option maxRecDepth 100000 in
theorem E_259_84 (Ls d : Nat) (x1 x2 x3 : Int) (w : AW) : Lm P0 (M0 Ls) d m_M_many 84 [some (.inr (.inr 113)), some (.inl x1), some (.inl x2), some (.inl x3), none, none, none, none, none] [] w = Lm P0 (M0 Ls) d m_M_many 74 [some (.inr (.inr 113)), some (.inl x1), some (.inl x2), some (.inl (w32 (x3 + 1))), none, none, none, none, none] [] w := by
  rw [Lm_unf P0 (M0 Ls) sp_259 4]
  rfl
set_option maxRecDepth 100000 in
theorem E_259_98 (Ls d : Nat) (x1 x2 x3 x5 x7 : Int) (u8 : Option AV) (w : AW) : Lm P0 (M0 Ls) d m_M_many 98 [some (.inr (.inr 113)), some (.inl x1), some (.inl x2), some (.inr (.inl x3)), none, some (.inr (.inl x5)), none, some (.inl x7), u8] [] w = (if x2 < x7 then some (some (.inr (.inl x3)), w) else Lm P0 (M0 Ls) d m_M_many 110 [some (.inr (.inr 113)), some (.inl x1), some (.inl x2), some (.inr (.inl x5)), none, some (.inr (.inl x5)), none, some (.inl x7), some (.inl 0)] [] w) := by
  rw [Lm_unf P0 (M0 Ls) sp_259 9]
  rfl
set_option maxRecDepth 100000 in
theorem E_259_110 (Ls d : Nat) (x1 x2 x3 x5 x7 x8 : Int) (w : AW) : Lm P0 (M0 Ls) d m_M_many 110 [some (.inr (.inr 113)), some (.inl x1), some (.inl x2), some (.inr (.inl x3)), none, some (.inr (.inl x5)), none, some (.inl x7), some (.inl x8)] [] w = (if x8 < (rd w 112 31) then Lk P0 (M0 Ls) d m_M_endsWell [.inr (.inr 113), .inl x1, .inl x8] w (fun r_ w_ => Lm P0 (M0 Ls) d m_M_many 127 [some (.inr (.inr 113)), some (.inl x1), some (.inl x2), some (.inr (.inl x3)), none, some (.inr (.inl x5)), none, some (.inl x7), some (.inl x8)] (r_.toList ++ [.inr (.inl x3)]) w_) else Lm P0 (M0 Ls) d m_M_many 98 [some (.inr (.inr 113)), some (.inl x1), some (.inl x2), some (.inr (.inl (Int.tmod x3 1000000000))), none, some (.inr (.inl (w64 (Int.tdiv x3 1000000000)))), none, some (.inl (w32 (x7 + 1))), some (.inl x8)] [] w) := by
  rw [Lm_unf P0 (M0 Ls) sp_259 16]
  rfl
set_option maxRecDepth 100000 in
theorem E_259_127 (Ls d : Nat) (x1 x2 x3 x5 x7 x8 y0 y1 : Int) (w : AW) : Lm P0 (M0 Ls) d m_M_many 127 [some (.inr (.inr 113)), some (.inl x1), some (.inl x2), some (.inr (.inl x3)), none, some (.inr (.inl x5)), none, some (.inl x7), some (.inl x8)] [.inl y0, .inr (.inl y1)] w = (if y0 = 0 then Lm P0 (M0 Ls) d m_M_many 147 [some (.inr (.inr 113)), some (.inl x1), some (.inl x2), some (.inr (.inl x3)), none, some (.inr (.inl x5)), none, some (.inl x7), some (.inl x8)] [.inr (.inl 0), .inr (.inl y1)] w else (if 0 ≤ (w32 ((w32 (8 * x8)) + x7)) ∧ (w32 ((w32 (8 * x8)) + x7)) < 32768 then Lm P0 (M0 Ls) d m_M_many 147 [some (.inr (.inr 113)), some (.inl x1), some (.inl x2), some (.inr (.inl x3)), none, some (.inr (.inl x5)), none, some (.inl x7), some (.inl x8)] [.inr (.inl (rd w 127 (w32 ((w32 (8 * x8)) + x7)))), .inr (.inl y1)] w else none)) := by
  rw [Lm_unf P0 (M0 Ls) sp_259 12]
  rfl
set_option maxRecDepth 100000 in
theorem E_259_147 (Ls d : Nat) (x1 x2 x3 x5 x7 x8 y0 y1 : Int) (w : AW) : Lm P0 (M0 Ls) d m_M_many 147 [some (.inr (.inr 113)), some (.inl x1), some (.inl x2), some (.inr (.inl x3)), none, some (.inr (.inl x5)), none, some (.inl x7), some (.inl x8)] [.inr (.inl y0), .inr (.inl y1)] w = Lm P0 (M0 Ls) d m_M_many 110 [some (.inr (.inr 113)), some (.inl x1), some (.inl x2), some (.inr (.inl (w64 (y1 + y0)))), none, some (.inr (.inl x5)), none, some (.inl x7), some (.inl (w32 (x8 + 1)))] [] w := by
  rw [Lm_unf P0 (M0 Ls) sp_259 6]
  rfl
def sp_260 : Nat → Bool := fun q => [0, 2, 28, 41, 69, 74, 84, 104, 115, 132, 136, 142, 150].contains q
set_option maxRecDepth 100000 in
theorem E_260_0 (Ls d : Nat) (p1 : Int) (w : AW) : Lm P0 (M0 Ls) d m_M_goesOn 0 [some (.inr (.inr 113)), some (.inl p1), none, none, none] [] w = Lm P0 (M0 Ls) d m_M_goesOn 2 [some (.inr (.inr 113)), some (.inl p1), some (.inl 0), none, none] [] w := by
  rw [Lm_unf P0 (M0 Ls) sp_260 4]
  rfl
set_option maxRecDepth 100000 in
theorem E_260_2 (Ls d : Nat) (x1 x2 : Int) (w : AW) : Lm P0 (M0 Ls) d m_M_goesOn 2 [some (.inr (.inr 113)), some (.inl x1), some (.inl x2), none, none] [] w = (if x2 < (w32 (8 * (rd w 112 31))) then (if 0 ≤ x2 ∧ x2 < 32768 then Lm P0 (M0 Ls) d m_M_goesOn 2 [some (.inr (.inr 113)), some (.inl x1), some (.inl (w32 (x2 + 1))), none, none] [] (wC w 128 x2 0) else none) else Lm P0 (M0 Ls) d m_M_goesOn 28 [some (.inr (.inr 113)), some (.inl x1), some (.inl 0), none, none] [] w) := by
  rw [Lm_unf P0 (M0 Ls) sp_260 15]
  rfl
set_option maxRecDepth 100000 in
theorem E_260_28 (Ls d : Nat) (x1 x2 : Int) (u3 u4 : Option AV) (w : AW) : Lm P0 (M0 Ls) d m_M_goesOn 28 [some (.inr (.inr 113)), some (.inl x1), some (.inl x2), u3, u4] [] w = (if x2 < (rd w 112 31) then Lm P0 (M0 Ls) d m_M_goesOn 41 [some (.inr (.inr 113)), some (.inl x1), some (.inl x2), some (.inl 0), some (.inl 0)] [] w else Lm P0 (M0 Ls) d m_M_goesOn 150 [some (.inr (.inr 113)), some (.inl x1), some (.inl 0), u3, u4] [] w) := by
  rw [Lm_unf P0 (M0 Ls) sp_260 10]
  rfl
set_option maxRecDepth 100000 in
theorem E_260_41 (Ls d : Nat) (x1 x2 x3 x4 : Int) (w : AW) : Lm P0 (M0 Ls) d m_M_goesOn 41 [some (.inr (.inr 113)), some (.inl x1), some (.inl x2), some (.inl x3), some (.inl x4)] [] w = (if x4 < 8 then (if x3 = 0 then (if 0 ≤ (w32 ((w32 (8 * x2)) + x4)) ∧ (w32 ((w32 (8 * x2)) + x4)) < 32768 then (if 0 < (if (rd w 127 (w32 ((w32 (8 * x2)) + x4))) < 0 then -1 else if (rd w 127 (w32 ((w32 (8 * x2)) + x4))) = 0 then 0 else 1 : Int) then Lm P0 (M0 Ls) d m_M_goesOn 69 [some (.inr (.inr 113)), some (.inl x1), some (.inl x2), some (.inl x3), some (.inl x4)] [] w else Lm P0 (M0 Ls) d m_M_goesOn 74 [some (.inr (.inr 113)), some (.inl x1), some (.inl x2), some (.inl x3), some (.inl x4)] [.inl 0] w) else none) else Lm P0 (M0 Ls) d m_M_goesOn 69 [some (.inr (.inr 113)), some (.inl x1), some (.inl x2), some (.inl x3), some (.inl x4)] [] w) else Lm P0 (M0 Ls) d m_M_goesOn 84 [some (.inr (.inr 113)), some (.inl x1), some (.inl x2), some (.inl x3), some (.inl 0)] [] w) := by
  rw [Lm_unf P0 (M0 Ls) sp_260 19]
  rfl
set_option maxRecDepth 100000 in
theorem E_260_69 (Ls d : Nat) (x1 x2 x3 x4 : Int) (w : AW) : Lm P0 (M0 Ls) d m_M_goesOn 69 [some (.inr (.inr 113)), some (.inl x1), some (.inl x2), some (.inl x3), some (.inl x4)] [] w = Lm P0 (M0 Ls) d m_M_goesOn 74 [some (.inr (.inr 113)), some (.inl x1), some (.inl x2), some (.inl x3), some (.inl x4)] [.inl 1] w := by
  rw [Lm_unf P0 (M0 Ls) sp_260 4]
  rfl
set_option maxRecDepth 100000 in
theorem E_260_74 (Ls d : Nat) (x1 x2 x3 x4 y0 : Int) (w : AW) : Lm P0 (M0 Ls) d m_M_goesOn 74 [some (.inr (.inr 113)), some (.inl x1), some (.inl x2), some (.inl x3), some (.inl x4)] [.inl y0] w = Lm P0 (M0 Ls) d m_M_goesOn 41 [some (.inr (.inr 113)), some (.inl x1), some (.inl x2), some (.inl y0), some (.inl (w32 (x4 + 1)))] [] w := by
  rw [Lm_unf P0 (M0 Ls) sp_260 5]
  rfl
set_option maxRecDepth 100000 in
theorem E_260_84 (Ls d : Nat) (x1 x2 x3 x4 : Int) (w : AW) : Lm P0 (M0 Ls) d m_M_goesOn 84 [some (.inr (.inr 113)), some (.inl x1), some (.inl x2), some (.inl x3), some (.inl x4)] [] w = (if x4 < (rd w 112 30) then (if x3 = 0 then Lm P0 (M0 Ls) d m_M_goesOn 142 [some (.inr (.inr 113)), some (.inl x1), some (.inl x2), some (.inl x3), some (.inl x4)] [] w else Lk P0 (M0 Ls) d m_M_mayBe [.inr (.inr 113), .inl x1, .inl x4] w (fun r_ w_ => Lm P0 (M0 Ls) d m_M_goesOn 104 [some (.inr (.inr 113)), some (.inl x1), some (.inl x2), some (.inl x3), some (.inl x4)] (r_.toList ++ []) w_)) else Lm P0 (M0 Ls) d m_M_goesOn 142 [some (.inr (.inr 113)), some (.inl x1), some (.inl x2), some (.inl x3), some (.inl x4)] [] w) := by
  rw [Lm_unf P0 (M0 Ls) sp_260 11]
  rfl
set_option maxRecDepth 100000 in
theorem E_260_104 (Ls d : Nat) (x1 x2 x3 x4 y0 : Int) (w : AW) : Lm P0 (M0 Ls) d m_M_goesOn 104 [some (.inr (.inr 113)), some (.inl x1), some (.inl x2), some (.inl x3), some (.inl x4)] [.inl y0] w = (if y0 = 0 then Lm P0 (M0 Ls) d m_M_goesOn 136 [some (.inr (.inr 113)), some (.inl x1), some (.inl x2), some (.inl x3), some (.inl x4)] [] w else Lk P0 (M0 Ls) d m_M_isKept [.inr (.inr 113), .inl x1, .inl x2, .inl x4] w (fun r_ w_ => Lm P0 (M0 Ls) d m_M_goesOn 115 [some (.inr (.inr 113)), some (.inl x1), some (.inl x2), some (.inl x3), some (.inl x4)] (r_.toList ++ []) w_)) := by
  rw [Lm_unf P0 (M0 Ls) sp_260 7]
  rfl
set_option maxRecDepth 100000 in
theorem E_260_115 (Ls d : Nat) (x1 x2 x3 x4 y0 : Int) (w : AW) : Lm P0 (M0 Ls) d m_M_goesOn 115 [some (.inr (.inr 113)), some (.inl x1), some (.inl x2), some (.inl x3), some (.inl x4)] [.inl y0] w = (if y0 = 0 then Lm P0 (M0 Ls) d m_M_goesOn 136 [some (.inr (.inr 113)), some (.inl x1), some (.inl x2), some (.inl x3), some (.inl x4)] [] w else Lk P0 (M0 Ls) d m_M_laterState [.inr (.inr 113), .inl x2, .inl x4] w (fun r_ w_ => Lm P0 (M0 Ls) d m_M_goesOn 132 [some (.inr (.inr 113)), some (.inl x1), some (.inl x2), some (.inl x3), some (.inl x4)] (r_.toList ++ [.inl 8, .inl (w32 (8 * x2)), .inr (.inr 113)]) w_)) := by
  rw [Lm_unf P0 (M0 Ls) sp_260 11]
  rfl
set_option maxRecDepth 100000 in
theorem E_260_132 (Ls d : Nat) (x1 x2 x3 x4 y0 y1 y2 : Int) (w : AW) : Lm P0 (M0 Ls) d m_M_goesOn 132 [some (.inr (.inr 113)), some (.inl x1), some (.inl x2), some (.inl x3), some (.inl x4)] [.inl y0, .inl y1, .inl y2, .inr (.inr 113)] w = Lk P0 (M0 Ls) d m_M_adds [.inr (.inr 113), .inl y2, .inl (w32 (y1 * y0))] w (fun r_ w_ => Lm P0 (M0 Ls) d m_M_goesOn 136 [some (.inr (.inr 113)), some (.inl x1), some (.inl x2), some (.inl x3), some (.inl x4)] (r_.toList ++ []) w_) := by
  rw [Lm_unf P0 (M0 Ls) sp_260 3]
  rfl
set_option maxRecDepth 100000 in
theorem E_260_136 (Ls d : Nat) (x1 x2 x3 x4 : Int) (w : AW) : Lm P0 (M0 Ls) d m_M_goesOn 136 [some (.inr (.inr 113)), some (.inl x1), some (.inl x2), some (.inl x3), some (.inl x4)] [] w = Lm P0 (M0 Ls) d m_M_goesOn 84 [some (.inr (.inr 113)), some (.inl x1), some (.inl x2), some (.inl x3), some (.inl (w32 (x4 + 1)))] [] w := by
  rw [Lm_unf P0 (M0 Ls) sp_260 4]
  rfl
set_option maxRecDepth 100000 in
theorem E_260_142 (Ls d : Nat) (x1 x2 x3 x4 : Int) (w : AW) : Lm P0 (M0 Ls) d m_M_goesOn 142 [some (.inr (.inr 113)), some (.inl x1), some (.inl x2), some (.inl x3), some (.inl x4)] [] w = Lm P0 (M0 Ls) d m_M_goesOn 28 [some (.inr (.inr 113)), some (.inl x1), some (.inl (w32 (x2 + 1))), some (.inl x3), some (.inl x4)] [] w := by
  rw [Lm_unf P0 (M0 Ls) sp_260 4]
  rfl
set_option maxRecDepth 100000 in
theorem E_260_150 (Ls d : Nat) (x1 x2 : Int) (u3 u4 : Option AV) (w : AW) : Lm P0 (M0 Ls) d m_M_goesOn 150 [some (.inr (.inr 113)), some (.inl x1), some (.inl x2), u3, u4] [] w = (if x2 < (w32 (8 * (rd w 112 31))) then (if 0 ≤ x2 ∧ x2 < 32768 then (if 0 ≤ x2 ∧ x2 < 32768 then Lm P0 (M0 Ls) d m_M_goesOn 150 [some (.inr (.inr 113)), some (.inl x1), some (.inl (w32 (x2 + 1))), u3, u4] [] (wC w 127 x2 (rd w 128 x2)) else none) else none) else some (none, w)) := by
  rw [Lm_unf P0 (M0 Ls) sp_260 18]
  rfl
def sp_261 : Nat → Bool := fun q => [0, 5].contains q
set_option maxRecDepth 100000 in
theorem E_261_0 (Ls d : Nat) (p1 p2 : Int) (w : AW) : Lm P0 (M0 Ls) d m_M_adds 0 [some (.inr (.inr 113)), some (.inl p1), some (.inl p2), none, none, none, none, none] [] w = Lm P0 (M0 Ls) d m_M_adds 5 [some (.inr (.inr 113)), some (.inl p1), some (.inl p2), some (.inr (.inl 0)), none, some (.inl 0), none, none] [] w := by
  rw [Lm_unf P0 (M0 Ls) sp_261 6]
  rfl
set_option maxRecDepth 100000 in
theorem E_261_5 (Ls d : Nat) (x1 x2 x3 x5 : Int) (u6 : Option AV) (w : AW) : Lm P0 (M0 Ls) d m_M_adds 5 [some (.inr (.inr 113)), some (.inl x1), some (.inl x2), some (.inr (.inl x3)), none, some (.inl x5), u6, none] [] w = (if x5 < 8 then (if 0 ≤ (w32 (x2 + x5)) ∧ (w32 (x2 + x5)) < 32768 then (if 0 ≤ (w32 (x1 + x5)) ∧ (w32 (x1 + x5)) < 32768 then (if 0 ≤ (w32 (x2 + x5)) ∧ (w32 (x2 + x5)) < 32768 then Lm P0 (M0 Ls) d m_M_adds 5 [some (.inr (.inr 113)), some (.inl x1), some (.inl x2), some (.inr (.inl (w64 (Int.tdiv (w64 ((w64 ((rd w 128 (w32 (x2 + x5))) + (rd w 127 (w32 (x1 + x5))))) + x3)) 1000000000)))), none, some (.inl (w32 (x5 + 1))), some (.inr (.inl (w64 ((w64 ((rd w 128 (w32 (x2 + x5))) + (rd w 127 (w32 (x1 + x5))))) + x3)))), none] [] (wC w 128 (w32 (x2 + x5)) (Int.tmod (w64 ((w64 ((rd w 128 (w32 (x2 + x5))) + (rd w 127 (w32 (x1 + x5))))) + x3)) 1000000000)) else none) else none) else none) else some (none, w)) := by
  rw [Lm_unf P0 (M0 Ls) sp_261 36]
  rfl
def sp_262 : Nat → Bool := fun q => [0, 30, 35, 42, 62, 72].contains q
set_option maxRecDepth 100000 in
theorem E_262_0 (Ls d : Nat) (p1 p2 p3 p4 : Int) (w : AW) : Lm P0 (M0 Ls) d m_M_costOf 0 [some (.inr (.inr 113)), some (.inl p1), some (.inl p2), some (.inl p3), some (.inl p4), none] [] w = (if p4 = 0 then Lk P0 (M0 Ls) d m_M_ago [.inr (.inr 113), .inl p2, .inl 1] w (fun r_ w_ => Lm P0 (M0 Ls) d m_M_costOf 42 [some (.inr (.inr 113)), some (.inl p1), some (.inl p2), some (.inl p3), some (.inl p4), none] (r_.toList ++ []) w_) else (if p3 = (w32 ((rd w 112 30) - 1)) then Lm P0 (M0 Ls) d m_M_costOf 30 [some (.inr (.inr 113)), some (.inl p1), some (.inl p2), some (.inl p3), some (.inl p4), none] [] w else (if 0 ≤ (w32 (55 + p1)) ∧ (w32 (55 + p1)) < 1980 then (if (rd w 118 (w32 (55 + p1))) = (w32 (p3 + 1)) then Lm P0 (M0 Ls) d m_M_costOf 30 [some (.inr (.inr 113)), some (.inl p1), some (.inl p2), some (.inl p3), some (.inl p4), none] [] w else Lm P0 (M0 Ls) d m_M_costOf 35 [some (.inr (.inr 113)), some (.inl p1), some (.inl p2), some (.inl p3), some (.inl p4), none] [.inl 1] w) else none))) := by
  rw [Lm_unf P0 (M0 Ls) sp_262 21]
  rfl
set_option maxRecDepth 100000 in
theorem E_262_30 (Ls d : Nat) (x1 x2 x3 x4 : Int) (w : AW) : Lm P0 (M0 Ls) d m_M_costOf 30 [some (.inr (.inr 113)), some (.inl x1), some (.inl x2), some (.inl x3), some (.inl x4), none] [] w = Lm P0 (M0 Ls) d m_M_costOf 35 [some (.inr (.inr 113)), some (.inl x1), some (.inl x2), some (.inl x3), some (.inl x4), none] [.inl 0] w := by
  rw [Lm_unf P0 (M0 Ls) sp_262 4]
  rfl
set_option maxRecDepth 100000 in
theorem E_262_35 (Ls d : Nat) (x1 x2 x3 x4 y0 : Int) (w : AW) : Lm P0 (M0 Ls) d m_M_costOf 35 [some (.inr (.inr 113)), some (.inl x1), some (.inl x2), some (.inl x3), some (.inl x4), none] [.inl y0] w = some (some (.inl y0), w) := by
  rw [Lm_unf P0 (M0 Ls) sp_262 2]
  rfl
set_option maxRecDepth 100000 in
theorem E_262_42 (Ls d : Nat) (x1 x2 x3 x4 y0 : Int) (w : AW) : Lm P0 (M0 Ls) d m_M_costOf 42 [some (.inr (.inr 113)), some (.inl x1), some (.inl x2), some (.inl x3), some (.inl x4), none] [.inl y0] w = (if x3 = (w32 ((rd w 112 30) - 1)) then Lm P0 (M0 Ls) d m_M_costOf 62 [some (.inr (.inr 113)), some (.inl x1), some (.inl x2), some (.inl x3), some (.inl x4), some (.inl y0)] [] w else (if y0 = (-2000) then Lm P0 (M0 Ls) d m_M_costOf 62 [some (.inr (.inr 113)), some (.inl x1), some (.inl x2), some (.inl x3), some (.inl x4), some (.inl y0)] [] w else Lk P0 (M0 Ls) d m_M_apart [.inl x3, .inl y0] w (fun r_ w_ => Lm P0 (M0 Ls) d m_M_costOf 72 [some (.inr (.inr 113)), some (.inl x1), some (.inl x2), some (.inl x3), some (.inl x4), some (.inl y0)] (r_.toList ++ []) w_))) := by
  rw [Lm_unf P0 (M0 Ls) sp_262 14]
  rfl
set_option maxRecDepth 100000 in
theorem E_262_62 (Ls d : Nat) (x1 x2 x3 x4 x5 : Int) (w : AW) : Lm P0 (M0 Ls) d m_M_costOf 62 [some (.inr (.inr 113)), some (.inl x1), some (.inl x2), some (.inl x3), some (.inl x4), some (.inl x5)] [] w = Lm P0 (M0 Ls) d m_M_costOf 72 [some (.inr (.inr 113)), some (.inl x1), some (.inl x2), some (.inl x3), some (.inl x4), some (.inl x5)] [.inl 0] w := by
  rw [Lm_unf P0 (M0 Ls) sp_262 4]
  rfl
set_option maxRecDepth 100000 in
theorem E_262_72 (Ls d : Nat) (x1 x2 x3 x4 x5 y0 : Int) (w : AW) : Lm P0 (M0 Ls) d m_M_costOf 72 [some (.inr (.inr 113)), some (.inl x1), some (.inl x2), some (.inl x3), some (.inl x4), some (.inl x5)] [.inl y0] w = some (some (.inl y0), w) := by
  rw [Lm_unf P0 (M0 Ls) sp_262 2]
  rfl
def sp_263 : Nat → Bool := fun q => [0, 21, 36, 53].contains q
set_option maxRecDepth 100000 in
theorem E_263_0 (Ls d : Nat) (p1 p2 p3 : Int) (w : AW) : Lm P0 (M0 Ls) d m_M_mayComeAt 0 [some (.inr (.inr 113)), some (.inl p1), some (.inl p2), some (.inl p3)] [] w = (if p3 = 0 then Lk P0 (M0 Ls) d m_M_mayBe [.inr (.inr 113), .inl p1, .inl p2] w (fun r_ w_ => Lm P0 (M0 Ls) d m_M_mayComeAt 53 [some (.inr (.inr 113)), some (.inl p1), some (.inl p2), some (.inl p3)] (r_.toList ++ []) w_) else (if 0 ≤ (w32 (55 + p1)) ∧ (w32 (55 + p1)) < 1980 then (if (rd w 118 (w32 (55 + p1))) = 0 then Lm P0 (M0 Ls) d m_M_mayComeAt 21 [some (.inr (.inr 113)), some (.inl p1), some (.inl p2), some (.inl p3)] [.inl 1] w else Lm P0 (M0 Ls) d m_M_mayComeAt 21 [some (.inr (.inr 113)), some (.inl p1), some (.inl p2), some (.inl p3)] [.inl 0] w) else none)) := by
  rw [Lm_unf P0 (M0 Ls) sp_263 13]
  rfl
set_option maxRecDepth 100000 in
theorem E_263_21 (Ls d : Nat) (x1 x2 x3 y0 : Int) (w : AW) : Lm P0 (M0 Ls) d m_M_mayComeAt 21 [some (.inr (.inr 113)), some (.inl x1), some (.inl x2), some (.inl x3)] [.inl y0] w = (if x2 = (w32 ((rd w 112 30) - 1)) then Lm P0 (M0 Ls) d m_M_mayComeAt 36 [some (.inr (.inr 113)), some (.inl x1), some (.inl x2), some (.inl x3)] [.inl 1, .inl y0] w else Lm P0 (M0 Ls) d m_M_mayComeAt 36 [some (.inr (.inr 113)), some (.inl x1), some (.inl x2), some (.inl x3)] [.inl 0, .inl y0] w) := by
  rw [Lm_unf P0 (M0 Ls) sp_263 10]
  rfl
set_option maxRecDepth 100000 in
theorem E_263_36 (Ls d : Nat) (x1 x2 x3 y0 y1 : Int) (w : AW) : Lm P0 (M0 Ls) d m_M_mayComeAt 36 [some (.inr (.inr 113)), some (.inl x1), some (.inl x2), some (.inl x3)] [.inl y0, .inl y1] w = (if y1 = y0 then Lm P0 (M0 Ls) d m_M_mayComeAt 53 [some (.inr (.inr 113)), some (.inl x1), some (.inl x2), some (.inl x3)] [.inl 1] w else Lm P0 (M0 Ls) d m_M_mayComeAt 53 [some (.inr (.inr 113)), some (.inl x1), some (.inl x2), some (.inl x3)] [.inl 0] w) := by
  rw [Lm_unf P0 (M0 Ls) sp_263 5]
  rfl
set_option maxRecDepth 100000 in
theorem E_263_53 (Ls d : Nat) (x1 x2 x3 y0 : Int) (w : AW) : Lm P0 (M0 Ls) d m_M_mayComeAt 53 [some (.inr (.inr 113)), some (.inl x1), some (.inl x2), some (.inl x3)] [.inl y0] w = (if rok 3 y0 = true then some (some (.inl y0), w) else none) := by
  rw [Lm_unf P0 (M0 Ls) sp_263 2]
  rfl
def sp_264 : Nat → Bool := fun q => [0, 8, 18, 21, 34, 51].contains q
set_option maxRecDepth 100000 in
theorem E_264_0 (Ls d : Nat) (p1 p2 p3 p4 : Int) (w : AW) : Lm P0 (M0 Ls) d m_M_through 0 [some (.inr (.inr 113)), some (.inl p1), some (.inl p2), some (.inl p3), some (.inl p4)] [] w = Lk P0 (M0 Ls) d m_M_mayComeAt [.inr (.inr 113), .inl p1, .inl p3, .inl p4] w (fun r_ w_ => Lm P0 (M0 Ls) d m_M_through 8 [some (.inr (.inr 113)), some (.inl p1), some (.inl p2), some (.inl p3), some (.inl p4)] (r_.toList ++ []) w_) := by
  rw [Lm_unf P0 (M0 Ls) sp_264 6]
  rfl
set_option maxRecDepth 100000 in
theorem E_264_8 (Ls d : Nat) (x1 x2 x3 x4 y0 : Int) (w : AW) : Lm P0 (M0 Ls) d m_M_through 8 [some (.inr (.inr 113)), some (.inl x1), some (.inl x2), some (.inl x3), some (.inl x4)] [.inl y0] w = (if y0 = 0 then Lm P0 (M0 Ls) d m_M_through 21 [some (.inr (.inr 113)), some (.inl x1), some (.inl x2), some (.inl x3), some (.inl x4)] [] w else Lk P0 (M0 Ls) d m_M_isKept [.inr (.inr 113), .inl x1, .inl x2, .inl x3] w (fun r_ w_ => Lm P0 (M0 Ls) d m_M_through 18 [some (.inr (.inr 113)), some (.inl x1), some (.inl x2), some (.inl x3), some (.inl x4)] (r_.toList ++ []) w_)) := by
  rw [Lm_unf P0 (M0 Ls) sp_264 7]
  rfl
set_option maxRecDepth 100000 in
theorem E_264_18 (Ls d : Nat) (x1 x2 x3 x4 y0 : Int) (w : AW) : Lm P0 (M0 Ls) d m_M_through 18 [some (.inr (.inr 113)), some (.inl x1), some (.inl x2), some (.inl x3), some (.inl x4)] [.inl y0] w = (if y0 = 0 then Lm P0 (M0 Ls) d m_M_through 21 [some (.inr (.inr 113)), some (.inl x1), some (.inl x2), some (.inl x3), some (.inl x4)] [] w else Lk P0 (M0 Ls) d m_M_costOf [.inr (.inr 113), .inl x1, .inl x2, .inl x3, .inl x4] w (fun r_ w_ => Lm P0 (M0 Ls) d m_M_through 34 [some (.inr (.inr 113)), some (.inl x1), some (.inl x2), some (.inl x3), some (.inl x4)] (r_.toList ++ []) w_)) := by
  rw [Lm_unf P0 (M0 Ls) sp_264 8]
  rfl
set_option maxRecDepth 100000 in
theorem E_264_21 (Ls d : Nat) (x1 x2 x3 x4 : Int) (w : AW) : Lm P0 (M0 Ls) d m_M_through 21 [some (.inr (.inr 113)), some (.inl x1), some (.inl x2), some (.inl x3), some (.inl x4)] [] w = some (some (.inl 1000000), w) := by
  rw [Lm_unf P0 (M0 Ls) sp_264 3]
  rfl
set_option maxRecDepth 100000 in
theorem E_264_34 (Ls d : Nat) (x1 x2 x3 x4 y0 : Int) (w : AW) : Lm P0 (M0 Ls) d m_M_through 34 [some (.inr (.inr 113)), some (.inl x1), some (.inl x2), some (.inl x3), some (.inl x4)] [.inl y0] w = Lk P0 (M0 Ls) d m_M_laterState [.inr (.inr 113), .inl x2, .inl x3] w (fun r_ w_ => Lm P0 (M0 Ls) d m_M_through 51 [some (.inr (.inr 113)), some (.inl x1), some (.inl x2), some (.inl x3), some (.inl x4)] (r_.toList ++ [.inl (w32 (4096 * (w32 (x1 + 1)))), .inr (.inr 130), .inl y0]) w_) := by
  rw [Lm_unf P0 (M0 Ls) sp_264 12]
  rfl
set_option maxRecDepth 100000 in
theorem E_264_51 (Ls d : Nat) (x1 x2 x3 x4 y0 y1 y3 : Int) (w : AW) : Lm P0 (M0 Ls) d m_M_through 51 [some (.inr (.inr 113)), some (.inl x1), some (.inl x2), some (.inl x3), some (.inl x4)] [.inl y0, .inl y1, .inr (.inr 130), .inl y3] w = (if 0 ≤ (w32 (y1 + y0)) ∧ (w32 (y1 + y0)) < 249856 then some (some (.inl (w32 (y3 + (rd w 129 (w32 (y1 + y0)))))), w) else none) := by
  rw [Lm_unf P0 (M0 Ls) sp_264 5]
  rfl
def sp_265 : Nat → Bool := fun q => [0, 2, 27, 37, 48, 55, 72, 91, 107, 146, 158, 175, 185, 230, 238, 245].contains q
set_option maxRecDepth 100000 in
theorem E_265_0 (Ls d : Nat) (p1 p2 : Int) (w : AW) : Lm P0 (M0 Ls) d m_M_findLeast 0 [some (.inr (.inr 113)), some (.inl p1), some (.inl p2), none, none, none, none, none] [] w = Lm P0 (M0 Ls) d m_M_findLeast 2 [some (.inr (.inr 113)), some (.inl p1), some (.inl p2), some (.inl 0), none, none, none, none] [] w := by
  rw [Lm_unf P0 (M0 Ls) sp_265 4]
  rfl
set_option maxRecDepth 100000 in
theorem E_265_2 (Ls d : Nat) (x1 x2 x3 : Int) (w : AW) : Lm P0 (M0 Ls) d m_M_findLeast 2 [some (.inr (.inr 113)), some (.inl x1), some (.inl x2), some (.inl x3), none, none, none, none] [] w = (if x3 < (rd w 112 31) then Lk P0 (M0 Ls) d m_M_endsWell [.inr (.inr 113), .inl x1, .inl x3] w (fun r_ w_ => Lm P0 (M0 Ls) d m_M_findLeast 27 [some (.inr (.inr 113)), some (.inl x1), some (.inl x2), some (.inl x3), none, none, none, none] (r_.toList ++ [.inl (w32 ((w32 (4096 * x1)) + x3)), .inr (.inr 130)]) w_) else Lm P0 (M0 Ls) d m_M_findLeast 48 [some (.inr (.inr 113)), some (.inl x1), some (.inl x2), some (.inl (w32 (x1 - 1))), none, none, none, none] [] w) := by
  rw [Lm_unf P0 (M0 Ls) sp_265 16]
  rfl
set_option maxRecDepth 100000 in
theorem E_265_27 (Ls d : Nat) (x1 x2 x3 y0 y1 : Int) (w : AW) : Lm P0 (M0 Ls) d m_M_findLeast 27 [some (.inr (.inr 113)), some (.inl x1), some (.inl x2), some (.inl x3), none, none, none, none] [.inl y0, .inl y1, .inr (.inr 130)] w = (if y0 = 0 then Lm P0 (M0 Ls) d m_M_findLeast 37 [some (.inr (.inr 113)), some (.inl x1), some (.inl x2), some (.inl x3), none, none, none, none] [.inl 1000000, .inl y1, .inr (.inr 130)] w else Lm P0 (M0 Ls) d m_M_findLeast 37 [some (.inr (.inr 113)), some (.inl x1), some (.inl x2), some (.inl x3), none, none, none, none] [.inl 0, .inl y1, .inr (.inr 130)] w) := by
  rw [Lm_unf P0 (M0 Ls) sp_265 5]
  rfl
set_option maxRecDepth 100000 in
theorem E_265_37 (Ls d : Nat) (x1 x2 x3 y0 y1 : Int) (w : AW) : Lm P0 (M0 Ls) d m_M_findLeast 37 [some (.inr (.inr 113)), some (.inl x1), some (.inl x2), some (.inl x3), none, none, none, none] [.inl y0, .inl y1, .inr (.inr 130)] w = (if 0 ≤ y1 ∧ y1 < 249856 then Lm P0 (M0 Ls) d m_M_findLeast 2 [some (.inr (.inr 113)), some (.inl x1), some (.inl x2), some (.inl (w32 (x3 + 1))), none, none, none, none] [] (wC w 129 y1 y0) else none) := by
  rw [Lm_unf P0 (M0 Ls) sp_265 5]
  rfl
set_option maxRecDepth 100000 in
theorem E_265_48 (Ls d : Nat) (x1 x2 x3 : Int) (u4 u5 u6 u7 : Option AV) (w : AW) : Lm P0 (M0 Ls) d m_M_findLeast 48 [some (.inr (.inr 113)), some (.inl x1), some (.inl x2), some (.inl x3), u4, u5, u6, u7] [] w = (if x3 < 0 then Lk P0 (M0 Ls) d m_M_silence [.inr (.inr 113)] w (fun r_ w_ => Lm P0 (M0 Ls) d m_M_findLeast 146 [some (.inr (.inr 113)), some (.inl x1), some (.inl x2), some (.inl x3), u4, u5, u6, u7] (r_.toList ++ []) w_) else Lm P0 (M0 Ls) d m_M_findLeast 55 [some (.inr (.inr 113)), some (.inl x1), some (.inl x2), some (.inl x3), some (.inl 0), u5, u6, u7] [] w) := by
  rw [Lm_unf P0 (M0 Ls) sp_265 6]
  rfl
set_option maxRecDepth 100000 in
theorem E_265_55 (Ls d : Nat) (x1 x2 x3 x4 : Int) (u5 u6 u7 : Option AV) (w : AW) : Lm P0 (M0 Ls) d m_M_findLeast 55 [some (.inr (.inr 113)), some (.inl x1), some (.inl x2), some (.inl x3), some (.inl x4), u5, u6, u7] [] w = (if x4 < (rd w 112 31) then Lm P0 (M0 Ls) d m_M_findLeast 72 [some (.inr (.inr 113)), some (.inl x1), some (.inl x2), some (.inl x3), some (.inl x4), some (.inl 1000000), some (.inl 0), u7] [] w else Lm P0 (M0 Ls) d m_M_findLeast 48 [some (.inr (.inr 113)), some (.inl x1), some (.inl x2), some (.inl (w32 (x3 + (-1)))), some (.inl x4), u5, u6, u7] [] w) := by
  rw [Lm_unf P0 (M0 Ls) sp_265 10]
  rfl
set_option maxRecDepth 100000 in
theorem E_265_72 (Ls d : Nat) (x1 x2 x3 x4 x5 x6 : Int) (u7 : Option AV) (w : AW) : Lm P0 (M0 Ls) d m_M_findLeast 72 [some (.inr (.inr 113)), some (.inl x1), some (.inl x2), some (.inl x3), some (.inl x4), some (.inl x5), some (.inl x6), u7] [] w = (if x6 < (rd w 112 30) then Lk P0 (M0 Ls) d m_M_through [.inr (.inr 113), .inl x3, .inl x4, .inl x6, .inl x2] w (fun r_ w_ => Lm P0 (M0 Ls) d m_M_findLeast 91 [some (.inr (.inr 113)), some (.inl x1), some (.inl x2), some (.inl x3), some (.inl x4), some (.inl x5), some (.inl x6), u7] (r_.toList ++ []) w_) else (if 0 ≤ (w32 ((w32 (4096 * x3)) + x4)) ∧ (w32 ((w32 (4096 * x3)) + x4)) < 249856 then Lm P0 (M0 Ls) d m_M_findLeast 55 [some (.inr (.inr 113)), some (.inl x1), some (.inl x2), some (.inl x3), some (.inl (w32 (x4 + 1))), some (.inl x5), some (.inl x6), u7] [] (wC w 129 (w32 ((w32 (4096 * x3)) + x4)) x5) else none)) := by
  rw [Lm_unf P0 (M0 Ls) sp_265 17]
  rfl
set_option maxRecDepth 100000 in
theorem E_265_91 (Ls d : Nat) (x1 x2 x3 x4 x5 x6 y0 : Int) (u7 : Option AV) (w : AW) : Lm P0 (M0 Ls) d m_M_findLeast 91 [some (.inr (.inr 113)), some (.inl x1), some (.inl x2), some (.inl x3), some (.inl x4), some (.inl x5), some (.inl x6), u7] [.inl y0] w = (if y0 < x5 then Lm P0 (M0 Ls) d m_M_findLeast 107 [some (.inr (.inr 113)), some (.inl x1), some (.inl x2), some (.inl x3), some (.inl x4), some (.inl x5), some (.inl x6), some (.inl y0)] [.inl y0] w else Lm P0 (M0 Ls) d m_M_findLeast 107 [some (.inr (.inr 113)), some (.inl x1), some (.inl x2), some (.inl x3), some (.inl x4), some (.inl x5), some (.inl x6), some (.inl y0)] [.inl x5] w) := by
  rw [Lm_unf P0 (M0 Ls) sp_265 8]
  rfl
set_option maxRecDepth 100000 in
theorem E_265_107 (Ls d : Nat) (x1 x2 x3 x4 x5 x6 x7 y0 : Int) (w : AW) : Lm P0 (M0 Ls) d m_M_findLeast 107 [some (.inr (.inr 113)), some (.inl x1), some (.inl x2), some (.inl x3), some (.inl x4), some (.inl x5), some (.inl x6), some (.inl x7)] [.inl y0] w = Lm P0 (M0 Ls) d m_M_findLeast 72 [some (.inr (.inr 113)), some (.inl x1), some (.inl x2), some (.inl x3), some (.inl x4), some (.inl y0), some (.inl (w32 (x6 + 1))), some (.inl x7)] [] w := by
  rw [Lm_unf P0 (M0 Ls) sp_265 5]
  rfl
set_option maxRecDepth 100000 in
theorem E_265_146 (Ls d : Nat) (x1 x2 x3 y0 : Int) (u4 u5 u6 u7 : Option AV) (w : AW) : Lm P0 (M0 Ls) d m_M_findLeast 146 [some (.inr (.inr 113)), some (.inl x1), some (.inl x2), some (.inl x3), u4, u5, u6, u7] [.inl y0] w = (if 0 ≤ y0 ∧ y0 < 249856 then Lm P0 (M0 Ls) d m_M_findLeast 158 [some (.inr (.inr 113)), some (.inl x1), some (.inl x2), some (.inl y0), some (.inl (rd w 129 y0)), some (.inl 0), u6, u7] [] w else none) := by
  rw [Lm_unf P0 (M0 Ls) sp_265 10]
  rfl
set_option maxRecDepth 100000 in
theorem E_265_158 (Ls d : Nat) (x1 x2 x3 x4 x5 : Int) (u6 u7 : Option AV) (w : AW) : Lm P0 (M0 Ls) d m_M_findLeast 158 [some (.inr (.inr 113)), some (.inl x1), some (.inl x2), some (.inl x3), some (.inl x4), some (.inl x5), u6, u7] [] w = (if x5 < x1 then (if x4 < 1000000 then Lm P0 (M0 Ls) d m_M_findLeast 175 [some (.inr (.inr 113)), some (.inl x1), some (.inl x2), some (.inl x3), some (.inl x4), some (.inl x5), some (.inl 0), u7] [] w else Lm P0 (M0 Ls) d m_M_findLeast 245 [some (.inr (.inr 113)), some (.inl x1), some (.inl x2), some (.inl x3), some (.inl x4), some (.inl x5), u6, u7] [] w) else Lm P0 (M0 Ls) d m_M_findLeast 245 [some (.inr (.inr 113)), some (.inl x1), some (.inl x2), some (.inl x3), some (.inl x4), some (.inl x5), u6, u7] [] w) := by
  rw [Lm_unf P0 (M0 Ls) sp_265 10]
  rfl
set_option maxRecDepth 100000 in
theorem E_265_175 (Ls d : Nat) (x1 x2 x3 x4 x5 x6 : Int) (u7 : Option AV) (w : AW) : Lm P0 (M0 Ls) d m_M_findLeast 175 [some (.inr (.inr 113)), some (.inl x1), some (.inl x2), some (.inl x3), some (.inl x4), some (.inl x5), some (.inl x6), u7] [] w = Lk P0 (M0 Ls) d m_M_through [.inr (.inr 113), .inl x5, .inl x3, .inl x6, .inl x2] w (fun r_ w_ => Lm P0 (M0 Ls) d m_M_findLeast 185 [some (.inr (.inr 113)), some (.inl x1), some (.inl x2), some (.inl x3), some (.inl x4), some (.inl x5), some (.inl x6), u7] (r_.toList ++ []) w_) := by
  rw [Lm_unf P0 (M0 Ls) sp_265 7]
  rfl
set_option maxRecDepth 100000 in
theorem E_265_185 (Ls d : Nat) (x1 x2 x3 x4 x5 x6 y0 : Int) (u7 : Option AV) (w : AW) : Lm P0 (M0 Ls) d m_M_findLeast 185 [some (.inr (.inr 113)), some (.inl x1), some (.inl x2), some (.inl x3), some (.inl x4), some (.inl x5), some (.inl x6), u7] [.inl y0] w = (if 0 ≤ (w32 ((w32 (4096 * x5)) + x3)) ∧ (w32 ((w32 (4096 * x5)) + x3)) < 249856 then (if y0 = (rd w 129 (w32 ((w32 (4096 * x5)) + x3))) then (if x6 = (w32 ((rd w 112 30) - 1)) then Lm P0 (M0 Ls) d m_M_findLeast 230 [some (.inr (.inr 113)), some (.inl x1), some (.inl x2), some (.inl x3), some (.inl x4), some (.inl x5), some (.inl x6), u7] [.inl (-1), .inl x5, .inr (.inr 131)] w else Lm P0 (M0 Ls) d m_M_findLeast 230 [some (.inr (.inr 113)), some (.inl x1), some (.inl x2), some (.inl x3), some (.inl x4), some (.inl x5), some (.inl x6), u7] [.inl x6, .inl x5, .inr (.inr 131)] w) else Lm P0 (M0 Ls) d m_M_findLeast 175 [some (.inr (.inr 113)), some (.inl x1), some (.inl x2), some (.inl x3), some (.inl x4), some (.inl x5), some (.inl (w32 (x6 + 1))), u7] [] w) else none) := by
  rw [Lm_unf P0 (M0 Ls) sp_265 22]
  rfl
set_option maxRecDepth 100000 in
theorem E_265_230 (Ls d : Nat) (x1 x2 x3 x4 x5 x6 y0 y1 : Int) (u7 : Option AV) (w : AW) : Lm P0 (M0 Ls) d m_M_findLeast 230 [some (.inr (.inr 113)), some (.inl x1), some (.inl x2), some (.inl x3), some (.inl x4), some (.inl x5), some (.inl x6), u7] [.inl y0, .inl y1, .inr (.inr 131)] w = (if 0 ≤ y1 ∧ y1 < 60 then Lk P0 (M0 Ls) d m_M_laterState [.inr (.inr 113), .inl x3, .inl x6] (wC w 130 y1 y0) (fun r_ w_ => Lm P0 (M0 Ls) d m_M_findLeast 238 [some (.inr (.inr 113)), some (.inl x1), some (.inl x2), some (.inl x3), some (.inl x4), some (.inl x5), some (.inl x6), u7] (r_.toList ++ []) w_) else none) := by
  rw [Lm_unf P0 (M0 Ls) sp_265 6]
  rfl
set_option maxRecDepth 100000 in
theorem E_265_238 (Ls d : Nat) (x1 x2 x3 x4 x5 x6 y0 : Int) (u7 : Option AV) (w : AW) : Lm P0 (M0 Ls) d m_M_findLeast 238 [some (.inr (.inr 113)), some (.inl x1), some (.inl x2), some (.inl x3), some (.inl x4), some (.inl x5), some (.inl x6), u7] [.inl y0] w = Lm P0 (M0 Ls) d m_M_findLeast 158 [some (.inr (.inr 113)), some (.inl x1), some (.inl x2), some (.inl y0), some (.inl x4), some (.inl (w32 (x5 + 1))), some (.inl x6), u7] [] w := by
  rw [Lm_unf P0 (M0 Ls) sp_265 5]
  rfl
set_option maxRecDepth 100000 in
theorem E_265_245 (Ls d : Nat) (x1 x2 x3 x4 x5 : Int) (u6 u7 : Option AV) (w : AW) : Lm P0 (M0 Ls) d m_M_findLeast 245 [some (.inr (.inr 113)), some (.inl x1), some (.inl x2), some (.inl x3), some (.inl x4), some (.inl x5), u6, u7] [] w = some (some (.inl x4), w) := by
  rw [Lm_unf P0 (M0 Ls) sp_265 3]
  rfl
def sp_266 : Nat → Bool := fun q => [0, 9, 16, 19, 27, 40].contains q
set_option maxRecDepth 100000 in
theorem E_266_0 (Ls d : Nat) (p1 : Int) (w : AW) : Lm P0 (M0 Ls) d m_M_least 0 [some (.inr (.inr 113)), some (.inl p1), none] [] w = Lk P0 (M0 Ls) d m_M_isLong [.inl p1] (wC w 112 0 0) (fun r_ w_ => Lm P0 (M0 Ls) d m_M_least 9 [some (.inr (.inr 113)), some (.inl p1), none] (r_.toList ++ []) w_) := by
  rw [Lm_unf P0 (M0 Ls) sp_266 6]
  rfl
set_option maxRecDepth 100000 in
theorem E_266_9 (Ls d : Nat) (x1 y0 : Int) (w : AW) : Lm P0 (M0 Ls) d m_M_least 9 [some (.inr (.inr 113)), some (.inl x1), none] [.inl y0] w = (if y0 = 0 then Lm P0 (M0 Ls) d m_M_least 19 [some (.inr (.inr 113)), some (.inl x1), none] [] w else Lk P0 (M0 Ls) d m_M_findTables [.inr (.inr 113)] w (fun r_ w_ => Lm P0 (M0 Ls) d m_M_least 16 [some (.inr (.inr 113)), some (.inl x1), none] (r_.toList ++ []) w_)) := by
  rw [Lm_unf P0 (M0 Ls) sp_266 4]
  rfl
set_option maxRecDepth 100000 in
theorem E_266_16 (Ls d : Nat) (x1 y0 : Int) (w : AW) : Lm P0 (M0 Ls) d m_M_least 16 [some (.inr (.inr 113)), some (.inl x1), none] [.inl y0] w = (if y0 = 0 then Lm P0 (M0 Ls) d m_M_least 19 [some (.inr (.inr 113)), some (.inl x1), none] [] w else Lk P0 (M0 Ls) d m_M_findLeast [.inr (.inr 113), .inl x1, .inl 0] w (fun r_ w_ => Lm P0 (M0 Ls) d m_M_least 27 [some (.inr (.inr 113)), some (.inl x1), none] (r_.toList ++ []) w_)) := by
  rw [Lm_unf P0 (M0 Ls) sp_266 6]
  rfl
set_option maxRecDepth 100000 in
theorem E_266_19 (Ls d : Nat) (x1 : Int) (w : AW) : Lm P0 (M0 Ls) d m_M_least 19 [some (.inr (.inr 113)), some (.inl x1), none] [] w = some (some (.inl (-1)), w) := by
  rw [Lm_unf P0 (M0 Ls) sp_266 3]
  rfl
set_option maxRecDepth 100000 in
theorem E_266_27 (Ls d : Nat) (x1 y0 : Int) (w : AW) : Lm P0 (M0 Ls) d m_M_least 27 [some (.inr (.inr 113)), some (.inl x1), none] [.inl y0] w = (if y0 < 1000000 then Lm P0 (M0 Ls) d m_M_least 40 [some (.inr (.inr 113)), some (.inl x1), some (.inl y0)] [.inl y0] w else Lm P0 (M0 Ls) d m_M_least 40 [some (.inr (.inr 113)), some (.inl x1), some (.inl y0)] [.inl (-1)] w) := by
  rw [Lm_unf P0 (M0 Ls) sp_266 8]
  rfl
set_option maxRecDepth 100000 in
theorem E_266_40 (Ls d : Nat) (x1 x2 y0 : Int) (w : AW) : Lm P0 (M0 Ls) d m_M_least 40 [some (.inr (.inr 113)), some (.inl x1), some (.inl x2)] [.inl y0] w = some (some (.inl y0), w) := by
  rw [Lm_unf P0 (M0 Ls) sp_266 2]
  rfl
def sp_267 : Nat → Bool := fun q => [0, 9, 25, 34, 49, 51].contains q
set_option maxRecDepth 100000 in
theorem E_267_0 (Ls d : Nat) (p1 p2 : Int) (w : AW) : Lm P0 (M0 Ls) d m_M_leastAt 0 [some (.inr (.inr 113)), some (.inl p1), some (.inl p2)] [] w = Lk P0 (M0 Ls) d m_M_isLong [.inl p1] (wC w 112 0 0) (fun r_ w_ => Lm P0 (M0 Ls) d m_M_leastAt 9 [some (.inr (.inr 113)), some (.inl p1), some (.inl p2)] (r_.toList ++ []) w_) := by
  rw [Lm_unf P0 (M0 Ls) sp_267 6]
  rfl
set_option maxRecDepth 100000 in
theorem E_267_9 (Ls d : Nat) (x1 x2 y0 : Int) (w : AW) : Lm P0 (M0 Ls) d m_M_leastAt 9 [some (.inr (.inr 113)), some (.inl x1), some (.inl x2)] [.inl y0] w = (if y0 = 0 then Lm P0 (M0 Ls) d m_M_leastAt 49 [some (.inr (.inr 113)), some (.inl x1), some (.inl x2)] [] w else (if x2 < 0 then Lm P0 (M0 Ls) d m_M_leastAt 49 [some (.inr (.inr 113)), some (.inl x1), some (.inl x2)] [] w else (if x2 < x1 then Lk P0 (M0 Ls) d m_M_findTables [.inr (.inr 113)] w (fun r_ w_ => Lm P0 (M0 Ls) d m_M_leastAt 25 [some (.inr (.inr 113)), some (.inl x1), some (.inl x2)] (r_.toList ++ []) w_) else Lm P0 (M0 Ls) d m_M_leastAt 49 [some (.inr (.inr 113)), some (.inl x1), some (.inl x2)] [] w))) := by
  rw [Lm_unf P0 (M0 Ls) sp_267 9]
  rfl
set_option maxRecDepth 100000 in
theorem E_267_25 (Ls d : Nat) (x1 x2 y0 : Int) (w : AW) : Lm P0 (M0 Ls) d m_M_leastAt 25 [some (.inr (.inr 113)), some (.inl x1), some (.inl x2)] [.inl y0] w = (if y0 = 0 then Lm P0 (M0 Ls) d m_M_leastAt 49 [some (.inr (.inr 113)), some (.inl x1), some (.inl x2)] [] w else Lk P0 (M0 Ls) d m_M_findLeast [.inr (.inr 113), .inl x1, .inl 0] w (fun r_ w_ => Lm P0 (M0 Ls) d m_M_leastAt 34 [some (.inr (.inr 113)), some (.inl x1), some (.inl x2)] (r_.toList ++ []) w_)) := by
  rw [Lm_unf P0 (M0 Ls) sp_267 6]
  rfl
set_option maxRecDepth 100000 in
theorem E_267_34 (Ls d : Nat) (x1 x2 y0 : Int) (w : AW) : Lm P0 (M0 Ls) d m_M_leastAt 34 [some (.inr (.inr 113)), some (.inl x1), some (.inl x2)] [.inl y0] w = (if y0 < 1000000 then (if 0 ≤ x2 ∧ x2 < 60 then Lm P0 (M0 Ls) d m_M_leastAt 51 [some (.inr (.inr 113)), some (.inl x1), some (.inl x2)] [.inl (rd w 130 x2)] w else none) else Lm P0 (M0 Ls) d m_M_leastAt 49 [some (.inr (.inr 113)), some (.inl x1), some (.inl x2)] [] w) := by
  rw [Lm_unf P0 (M0 Ls) sp_267 9]
  rfl
set_option maxRecDepth 100000 in
theorem E_267_49 (Ls d : Nat) (x1 x2 : Int) (w : AW) : Lm P0 (M0 Ls) d m_M_leastAt 49 [some (.inr (.inr 113)), some (.inl x1), some (.inl x2)] [] w = Lm P0 (M0 Ls) d m_M_leastAt 51 [some (.inr (.inr 113)), some (.inl x1), some (.inl x2)] [.inl (-2)] w := by
  rw [Lm_unf P0 (M0 Ls) sp_267 3]
  rfl
set_option maxRecDepth 100000 in
theorem E_267_51 (Ls d : Nat) (x1 x2 y0 : Int) (w : AW) : Lm P0 (M0 Ls) d m_M_leastAt 51 [some (.inr (.inr 113)), some (.inl x1), some (.inl x2)] [.inl y0] w = some (some (.inl y0), w) := by
  rw [Lm_unf P0 (M0 Ls) sp_267 2]
  rfl
def sp_268 : Nat → Bool := fun q => [0, 4, 7, 14, 21, 22].contains q
set_option maxRecDepth 100000 in
theorem E_268_0 (Ls d : Nat) (w : AW) : Lm P0 (M0 Ls) d m_M_canMend 0 [some (.inr (.inr 113))] [] w = Lk P0 (M0 Ls) d m_M_beats [.inr (.inr 113)] w (fun r_ w_ => Lm P0 (M0 Ls) d m_M_canMend 4 [some (.inr (.inr 113))] (r_.toList ++ []) w_) := by
  rw [Lm_unf P0 (M0 Ls) sp_268 3]
  rfl
set_option maxRecDepth 100000 in
theorem E_268_4 (Ls d : Nat) (y0 : Int) (w : AW) : Lm P0 (M0 Ls) d m_M_canMend 4 [some (.inr (.inr 113))] [.inl y0] w = Lk P0 (M0 Ls) d m_M_isLong [.inl y0] w (fun r_ w_ => Lm P0 (M0 Ls) d m_M_canMend 7 [some (.inr (.inr 113))] (r_.toList ++ []) w_) := by
  rw [Lm_unf P0 (M0 Ls) sp_268 2]
  rfl
set_option maxRecDepth 100000 in
theorem E_268_7 (Ls d : Nat) (y0 : Int) (w : AW) : Lm P0 (M0 Ls) d m_M_canMend 7 [some (.inr (.inr 113))] [.inl y0] w = (if y0 = 0 then Lm P0 (M0 Ls) d m_M_canMend 21 [some (.inr (.inr 113))] [] w else Lk P0 (M0 Ls) d m_M_findTables [.inr (.inr 113)] w (fun r_ w_ => Lm P0 (M0 Ls) d m_M_canMend 14 [some (.inr (.inr 113))] (r_.toList ++ []) w_)) := by
  rw [Lm_unf P0 (M0 Ls) sp_268 4]
  rfl
set_option maxRecDepth 100000 in
theorem E_268_14 (Ls d : Nat) (y0 : Int) (w : AW) : Lm P0 (M0 Ls) d m_M_canMend 14 [some (.inr (.inr 113))] [.inl y0] w = (if y0 = 0 then Lm P0 (M0 Ls) d m_M_canMend 21 [some (.inr (.inr 113))] [] w else Lm P0 (M0 Ls) d m_M_canMend 22 [some (.inr (.inr 113))] [.inl 1] w) := by
  rw [Lm_unf P0 (M0 Ls) sp_268 5]
  rfl
set_option maxRecDepth 100000 in
theorem E_268_21 (Ls d : Nat) (w : AW) : Lm P0 (M0 Ls) d m_M_canMend 21 [some (.inr (.inr 113))] [] w = Lm P0 (M0 Ls) d m_M_canMend 22 [some (.inr (.inr 113))] [.inl 0] w := by
  rw [Lm_unf P0 (M0 Ls) sp_268 3]
  rfl
set_option maxRecDepth 100000 in
theorem E_268_22 (Ls d : Nat) (y0 : Int) (w : AW) : Lm P0 (M0 Ls) d m_M_canMend 22 [some (.inr (.inr 113))] [.inl y0] w = (if rok 3 y0 = true then some (some (.inl y0), w) else none) := by
  rw [Lm_unf P0 (M0 Ls) sp_268 2]
  rfl
def sp_269 : Nat → Bool := fun q => [0, 9, 19, 23, 36].contains q
set_option maxRecDepth 100000 in
theorem E_269_0 (Ls d : Nat) (w : AW) : Lm P0 (M0 Ls) d m_M_mend 0 [some (.inr (.inr 113)), none] [] w = Lk P0 (M0 Ls) d m_M_canMend [.inr (.inr 113)] (wC w 112 0 0) (fun r_ w_ => Lm P0 (M0 Ls) d m_M_mend 9 [some (.inr (.inr 113)), none] (r_.toList ++ []) w_) := by
  rw [Lm_unf P0 (M0 Ls) sp_269 6]
  rfl
set_option maxRecDepth 100000 in
theorem E_269_9 (Ls d : Nat) (y0 : Int) (w : AW) : Lm P0 (M0 Ls) d m_M_mend 9 [some (.inr (.inr 113)), none] [.inl y0] w = (if y0 = 0 then some (some (.inl (-1)), w) else Lk P0 (M0 Ls) d m_M_beats [.inr (.inr 113)] w (fun r_ w_ => Lm P0 (M0 Ls) d m_M_mend 19 [some (.inr (.inr 113)), none] (r_.toList ++ [.inr (.inr 113)]) w_)) := by
  rw [Lm_unf P0 (M0 Ls) sp_269 5]
  rfl
set_option maxRecDepth 100000 in
theorem E_269_19 (Ls d : Nat) (y0 : Int) (w : AW) : Lm P0 (M0 Ls) d m_M_mend 19 [some (.inr (.inr 113)), none] [.inl y0, .inr (.inr 113)] w = Lk P0 (M0 Ls) d m_M_findLeast [.inr (.inr 113), .inl y0, .inl 1] w (fun r_ w_ => Lm P0 (M0 Ls) d m_M_mend 23 [some (.inr (.inr 113)), none] (r_.toList ++ []) w_) := by
  rw [Lm_unf P0 (M0 Ls) sp_269 3]
  rfl
set_option maxRecDepth 100000 in
theorem E_269_23 (Ls d : Nat) (y0 : Int) (w : AW) : Lm P0 (M0 Ls) d m_M_mend 23 [some (.inr (.inr 113)), none] [.inl y0] w = (if y0 < 1000000 then Lm P0 (M0 Ls) d m_M_mend 36 [some (.inr (.inr 113)), some (.inl y0)] [.inl y0] w else Lm P0 (M0 Ls) d m_M_mend 36 [some (.inr (.inr 113)), some (.inl y0)] [.inl (-1)] w) := by
  rw [Lm_unf P0 (M0 Ls) sp_269 8]
  rfl
set_option maxRecDepth 100000 in
theorem E_269_36 (Ls d : Nat) (x1 y0 : Int) (w : AW) : Lm P0 (M0 Ls) d m_M_mend 36 [some (.inr (.inr 113)), some (.inl x1)] [.inl y0] w = some (some (.inl y0), w) := by
  rw [Lm_unf P0 (M0 Ls) sp_269 2]
  rfl
def sp_270 : Nat → Bool := fun q => [0, 14, 21, 29, 33, 48, 50].contains q
set_option maxRecDepth 100000 in
theorem E_270_0 (Ls d : Nat) (p1 : Int) (w : AW) : Lm P0 (M0 Ls) d m_M_mendAt 0 [some (.inr (.inr 113)), some (.inl p1)] [] w = (if p1 < 0 then Lm P0 (M0 Ls) d m_M_mendAt 48 [some (.inr (.inr 113)), some (.inl p1)] [] (wC w 112 0 0) else Lk P0 (M0 Ls) d m_M_beats [.inr (.inr 113)] (wC w 112 0 0) (fun r_ w_ => Lm P0 (M0 Ls) d m_M_mendAt 14 [some (.inr (.inr 113)), some (.inl p1)] (r_.toList ++ [.inl p1]) w_)) := by
  rw [Lm_unf P0 (M0 Ls) sp_270 9]
  rfl
set_option maxRecDepth 100000 in
theorem E_270_14 (Ls d : Nat) (x1 y0 y1 : Int) (w : AW) : Lm P0 (M0 Ls) d m_M_mendAt 14 [some (.inr (.inr 113)), some (.inl x1)] [.inl y0, .inl y1] w = (if y1 < y0 then Lk P0 (M0 Ls) d m_M_canMend [.inr (.inr 113)] w (fun r_ w_ => Lm P0 (M0 Ls) d m_M_mendAt 21 [some (.inr (.inr 113)), some (.inl x1)] (r_.toList ++ []) w_) else Lm P0 (M0 Ls) d m_M_mendAt 48 [some (.inr (.inr 113)), some (.inl x1)] [] w) := by
  rw [Lm_unf P0 (M0 Ls) sp_270 4]
  rfl
set_option maxRecDepth 100000 in
theorem E_270_21 (Ls d : Nat) (x1 y0 : Int) (w : AW) : Lm P0 (M0 Ls) d m_M_mendAt 21 [some (.inr (.inr 113)), some (.inl x1)] [.inl y0] w = (if y0 = 0 then Lm P0 (M0 Ls) d m_M_mendAt 48 [some (.inr (.inr 113)), some (.inl x1)] [] w else Lk P0 (M0 Ls) d m_M_beats [.inr (.inr 113)] w (fun r_ w_ => Lm P0 (M0 Ls) d m_M_mendAt 29 [some (.inr (.inr 113)), some (.inl x1)] (r_.toList ++ [.inr (.inr 113)]) w_)) := by
  rw [Lm_unf P0 (M0 Ls) sp_270 5]
  rfl
set_option maxRecDepth 100000 in
theorem E_270_29 (Ls d : Nat) (x1 y0 : Int) (w : AW) : Lm P0 (M0 Ls) d m_M_mendAt 29 [some (.inr (.inr 113)), some (.inl x1)] [.inl y0, .inr (.inr 113)] w = Lk P0 (M0 Ls) d m_M_findLeast [.inr (.inr 113), .inl y0, .inl 1] w (fun r_ w_ => Lm P0 (M0 Ls) d m_M_mendAt 33 [some (.inr (.inr 113)), some (.inl x1)] (r_.toList ++ []) w_) := by
  rw [Lm_unf P0 (M0 Ls) sp_270 3]
  rfl
set_option maxRecDepth 100000 in
theorem E_270_33 (Ls d : Nat) (x1 y0 : Int) (w : AW) : Lm P0 (M0 Ls) d m_M_mendAt 33 [some (.inr (.inr 113)), some (.inl x1)] [.inl y0] w = (if y0 < 1000000 then (if 0 ≤ x1 ∧ x1 < 60 then Lm P0 (M0 Ls) d m_M_mendAt 50 [some (.inr (.inr 113)), some (.inl x1)] [.inl (rd w 130 x1)] w else none) else Lm P0 (M0 Ls) d m_M_mendAt 48 [some (.inr (.inr 113)), some (.inl x1)] [] w) := by
  rw [Lm_unf P0 (M0 Ls) sp_270 9]
  rfl
set_option maxRecDepth 100000 in
theorem E_270_48 (Ls d : Nat) (x1 : Int) (w : AW) : Lm P0 (M0 Ls) d m_M_mendAt 48 [some (.inr (.inr 113)), some (.inl x1)] [] w = Lm P0 (M0 Ls) d m_M_mendAt 50 [some (.inr (.inr 113)), some (.inl x1)] [.inl (-2)] w := by
  rw [Lm_unf P0 (M0 Ls) sp_270 3]
  rfl
set_option maxRecDepth 100000 in
theorem E_270_50 (Ls d : Nat) (x1 y0 : Int) (w : AW) : Lm P0 (M0 Ls) d m_M_mendAt 50 [some (.inr (.inr 113)), some (.inl x1)] [.inl y0] w = some (some (.inl y0), w) := by
  rw [Lm_unf P0 (M0 Ls) sp_270 2]
  rfl
def sp_271 : Nat → Bool := fun q => [0, 5, 28, 45, 54, 63, 64, 71].contains q
set_option maxRecDepth 100000 in
theorem E_271_0 (Ls d : Nat) (p1 p2 : Int) (w : AW) : Lm P0 (M0 Ls) d m_M_mayGo 0 [some (.inr (.inr 113)), some (.inl p1), some (.inl p2), none, none] [] w = Lm P0 (M0 Ls) d m_M_mayGo 5 [some (.inr (.inr 113)), some (.inl p1), some (.inl p2), some (.inl 0), some (.inl 0)] [] w := by
  rw [Lm_unf P0 (M0 Ls) sp_271 6]
  rfl
set_option maxRecDepth 100000 in
theorem E_271_5 (Ls d : Nat) (x1 x2 x3 x4 : Int) (w : AW) : Lm P0 (M0 Ls) d m_M_mayGo 5 [some (.inr (.inr 113)), some (.inl x1), some (.inl x2), some (.inl x3), some (.inl x4)] [] w = (if x4 < (w32 ((rd w 112 30) - 1)) then (if x3 = 0 then Lk P0 (M0 Ls) d m_M_isKept [.inr (.inr 113), .inl x1, .inl x2, .inl x4] w (fun r_ w_ => Lm P0 (M0 Ls) d m_M_mayGo 28 [some (.inr (.inr 113)), some (.inl x1), some (.inl x2), some (.inl x3), some (.inl x4)] (r_.toList ++ []) w_) else Lm P0 (M0 Ls) d m_M_mayGo 71 [some (.inr (.inr 113)), some (.inl x1), some (.inl x2), some (.inl x3), some (.inl x4)] [] w) else Lm P0 (M0 Ls) d m_M_mayGo 71 [some (.inr (.inr 113)), some (.inl x1), some (.inl x2), some (.inl x3), some (.inl x4)] [] w) := by
  rw [Lm_unf P0 (M0 Ls) sp_271 14]
  rfl
set_option maxRecDepth 100000 in
theorem E_271_28 (Ls d : Nat) (x1 x2 x3 x4 y0 : Int) (w : AW) : Lm P0 (M0 Ls) d m_M_mayGo 28 [some (.inr (.inr 113)), some (.inl x1), some (.inl x2), some (.inl x3), some (.inl x4)] [.inl y0] w = (if y0 = 0 then Lm P0 (M0 Ls) d m_M_mayGo 63 [some (.inr (.inr 113)), some (.inl x1), some (.inl x2), some (.inl x3), some (.inl x4)] [] w else Lk P0 (M0 Ls) d m_M_meter [.inr (.inr 113)] w (fun r_ w_ => Lm P0 (M0 Ls) d m_M_mayGo 45 [some (.inr (.inr 113)), some (.inl x1), some (.inl x2), some (.inl x3), some (.inl x4)] (r_.toList ++ [.inl (w32 (x1 + 1)), .inl 4096, .inr (.inr 132)]) w_)) := by
  rw [Lm_unf P0 (M0 Ls) sp_271 10]
  rfl
set_option maxRecDepth 100000 in
theorem E_271_45 (Ls d : Nat) (x1 x2 x3 x4 y0 y1 y2 : Int) (w : AW) : Lm P0 (M0 Ls) d m_M_mayGo 45 [some (.inr (.inr 113)), some (.inl x1), some (.inl x2), some (.inl x3), some (.inl x4)] [.inl y0, .inl y1, .inl y2, .inr (.inr 132)] w = if y0 = 0 then none else Lk P0 (M0 Ls) d m_M_laterState [.inr (.inr 113), .inl x2, .inl x4] w (fun r_ w_ => Lm P0 (M0 Ls) d m_M_mayGo 54 [some (.inr (.inr 113)), some (.inl x1), some (.inl x2), some (.inl x3), some (.inl x4)] (r_.toList ++ [.inl (w32 (y2 * (Int.tmod y1 y0))), .inr (.inr 132)]) w_) := by
  rw [Lm_unf P0 (M0 Ls) sp_271 7]
  rfl
set_option maxRecDepth 100000 in
theorem E_271_54 (Ls d : Nat) (x1 x2 x3 x4 y0 y1 : Int) (w : AW) : Lm P0 (M0 Ls) d m_M_mayGo 54 [some (.inr (.inr 113)), some (.inl x1), some (.inl x2), some (.inl x3), some (.inl x4)] [.inl y0, .inl y1, .inr (.inr 132)] w = (if 0 ≤ (w32 (y1 + y0)) ∧ (w32 (y1 + y0)) < 32768 then (if (rd w 131 (w32 (y1 + y0))) = 0 then Lm P0 (M0 Ls) d m_M_mayGo 63 [some (.inr (.inr 113)), some (.inl x1), some (.inl x2), some (.inl x3), some (.inl x4)] [] w else Lm P0 (M0 Ls) d m_M_mayGo 64 [some (.inr (.inr 113)), some (.inl x1), some (.inl x2), some (.inl x3), some (.inl x4)] [.inl 1] w) else none) := by
  rw [Lm_unf P0 (M0 Ls) sp_271 7]
  rfl
set_option maxRecDepth 100000 in
theorem E_271_63 (Ls d : Nat) (x1 x2 x3 x4 : Int) (w : AW) : Lm P0 (M0 Ls) d m_M_mayGo 63 [some (.inr (.inr 113)), some (.inl x1), some (.inl x2), some (.inl x3), some (.inl x4)] [] w = Lm P0 (M0 Ls) d m_M_mayGo 64 [some (.inr (.inr 113)), some (.inl x1), some (.inl x2), some (.inl x3), some (.inl x4)] [.inl 0] w := by
  rw [Lm_unf P0 (M0 Ls) sp_271 3]
  rfl
set_option maxRecDepth 100000 in
theorem E_271_64 (Ls d : Nat) (x1 x2 x3 x4 y0 : Int) (w : AW) : Lm P0 (M0 Ls) d m_M_mayGo 64 [some (.inr (.inr 113)), some (.inl x1), some (.inl x2), some (.inl x3), some (.inl x4)] [.inl y0] w = Lm P0 (M0 Ls) d m_M_mayGo 5 [some (.inr (.inr 113)), some (.inl x1), some (.inl x2), some (.inl y0), some (.inl (w32 (x4 + 1)))] [] w := by
  rw [Lm_unf P0 (M0 Ls) sp_271 5]
  rfl
set_option maxRecDepth 100000 in
theorem E_271_71 (Ls d : Nat) (x1 x2 x3 x4 : Int) (w : AW) : Lm P0 (M0 Ls) d m_M_mayGo 71 [some (.inr (.inr 113)), some (.inl x1), some (.inl x2), some (.inl x3), some (.inl x4)] [] w = (if rok 3 x3 = true then some (some (.inl x3), w) else none) := by
  rw [Lm_unf P0 (M0 Ls) sp_271 3]
  rfl
def sp_272 : Nat → Bool := fun q => [0, 15, 35, 54, 55, 64, 72, 80, 107, 119].contains q
set_option maxRecDepth 100000 in
theorem E_272_0 (Ls d : Nat) (w : AW) : Lm P0 (M0 Ls) d m_M_findEndless 0 [some (.inr (.inr 113)), none, none] [] w = (if (rd w 112 39) = 0 then Lm P0 (M0 Ls) d m_M_findEndless 15 [some (.inr (.inr 113)), some (.inl 0), none] [] (wC w 112 39 1) else some (none, w)) := by
  rw [Lm_unf P0 (M0 Ls) sp_272 10]
  rfl
set_option maxRecDepth 100000 in
theorem E_272_15 (Ls d : Nat) (x1 : Int) (w : AW) : Lm P0 (M0 Ls) d m_M_findEndless 15 [some (.inr (.inr 113)), some (.inl x1), none] [] w = (if x1 < 32768 then Lk P0 (M0 Ls) d m_M_meter [.inr (.inr 113)] w (fun r_ w_ => Lm P0 (M0 Ls) d m_M_findEndless 35 [some (.inr (.inr 113)), some (.inl x1), none] (r_.toList ++ [.inl (w32 (Int.tdiv x1 4096)), .inl x1, .inr (.inr 132)]) w_) else Lm P0 (M0 Ls) d m_M_findEndless 64 [some (.inr (.inr 113)), some (.inl 1), none] [] w) := by
  rw [Lm_unf P0 (M0 Ls) sp_272 12]
  rfl
set_option maxRecDepth 100000 in
theorem E_272_35 (Ls d : Nat) (x1 y0 y1 y2 : Int) (w : AW) : Lm P0 (M0 Ls) d m_M_findEndless 35 [some (.inr (.inr 113)), some (.inl x1), none] [.inl y0, .inl y1, .inl y2, .inr (.inr 132)] w = (if y1 < y0 then (if (Int.tmod x1 4096) < (rd w 112 31) then Lm P0 (M0 Ls) d m_M_findEndless 55 [some (.inr (.inr 113)), some (.inl x1), none] [.inl 1, .inl y2, .inr (.inr 132)] w else Lm P0 (M0 Ls) d m_M_findEndless 54 [some (.inr (.inr 113)), some (.inl x1), none] [.inl y2, .inr (.inr 132)] w) else Lm P0 (M0 Ls) d m_M_findEndless 54 [some (.inr (.inr 113)), some (.inl x1), none] [.inl y2, .inr (.inr 132)] w) := by
  rw [Lm_unf P0 (M0 Ls) sp_272 11]
  rfl
set_option maxRecDepth 100000 in
theorem E_272_54 (Ls d : Nat) (x1 y0 : Int) (w : AW) : Lm P0 (M0 Ls) d m_M_findEndless 54 [some (.inr (.inr 113)), some (.inl x1), none] [.inl y0, .inr (.inr 132)] w = Lm P0 (M0 Ls) d m_M_findEndless 55 [some (.inr (.inr 113)), some (.inl x1), none] [.inl 0, .inl y0, .inr (.inr 132)] w := by
  rw [Lm_unf P0 (M0 Ls) sp_272 3]
  rfl
set_option maxRecDepth 100000 in
theorem E_272_55 (Ls d : Nat) (x1 y0 y1 : Int) (w : AW) : Lm P0 (M0 Ls) d m_M_findEndless 55 [some (.inr (.inr 113)), some (.inl x1), none] [.inl y0, .inl y1, .inr (.inr 132)] w = (if 0 ≤ y1 ∧ y1 < 32768 then (if y0 = 0 ∨ y0 = 1 then Lm P0 (M0 Ls) d m_M_findEndless 15 [some (.inr (.inr 113)), some (.inl (w32 (x1 + 1))), none] [] (wC w 131 y1 y0) else none) else none) := by
  rw [Lm_unf P0 (M0 Ls) sp_272 5]
  rfl
set_option maxRecDepth 100000 in
theorem E_272_64 (Ls d : Nat) (x1 : Int) (u2 : Option AV) (w : AW) : Lm P0 (M0 Ls) d m_M_findEndless 64 [some (.inr (.inr 113)), some (.inl x1), u2] [] w = (if x1 = 0 then some (none, w) else Lm P0 (M0 Ls) d m_M_findEndless 72 [some (.inr (.inr 113)), some (.inl 0), some (.inl 0)] [] w) := by
  rw [Lm_unf P0 (M0 Ls) sp_272 8]
  rfl
set_option maxRecDepth 100000 in
theorem E_272_72 (Ls d : Nat) (x1 x2 : Int) (w : AW) : Lm P0 (M0 Ls) d m_M_findEndless 72 [some (.inr (.inr 113)), some (.inl x1), some (.inl x2)] [] w = Lk P0 (M0 Ls) d m_M_meter [.inr (.inr 113)] w (fun r_ w_ => Lm P0 (M0 Ls) d m_M_findEndless 80 [some (.inr (.inr 113)), some (.inl x1), some (.inl x2)] (r_.toList ++ [.inl 4096, .inl x2]) w_) := by
  rw [Lm_unf P0 (M0 Ls) sp_272 5]
  rfl
set_option maxRecDepth 100000 in
theorem E_272_80 (Ls d : Nat) (x1 x2 y0 y1 y2 : Int) (w : AW) : Lm P0 (M0 Ls) d m_M_findEndless 80 [some (.inr (.inr 113)), some (.inl x1), some (.inl x2)] [.inl y0, .inl y1, .inl y2] w = (if y2 < (w32 (y1 * y0)) then (if 0 ≤ x2 ∧ x2 < 32768 then (if (rd w 131 x2) = 0 then Lm P0 (M0 Ls) d m_M_findEndless 119 [some (.inr (.inr 113)), some (.inl x1), some (.inl x2)] [] w else Lk P0 (M0 Ls) d m_M_mayGo [.inr (.inr 113), .inl (w32 (Int.tdiv x2 4096)), .inl (Int.tmod x2 4096)] w (fun r_ w_ => Lm P0 (M0 Ls) d m_M_findEndless 107 [some (.inr (.inr 113)), some (.inl x1), some (.inl x2)] (r_.toList ++ []) w_)) else none) else Lm P0 (M0 Ls) d m_M_findEndless 64 [some (.inr (.inr 113)), some (.inl x1), some (.inl x2)] [] w) := by
  rw [Lm_unf P0 (M0 Ls) sp_272 16]
  rfl
set_option maxRecDepth 100000 in
theorem E_272_107 (Ls d : Nat) (x1 x2 y0 : Int) (w : AW) : Lm P0 (M0 Ls) d m_M_findEndless 107 [some (.inr (.inr 113)), some (.inl x1), some (.inl x2)] [.inl y0] w = (if y0 = 0 then (if 0 ≤ x2 ∧ x2 < 32768 then Lm P0 (M0 Ls) d m_M_findEndless 119 [some (.inr (.inr 113)), some (.inl 1), some (.inl x2)] [] (wC w 131 x2 0) else none) else Lm P0 (M0 Ls) d m_M_findEndless 119 [some (.inr (.inr 113)), some (.inl x1), some (.inl x2)] [] w) := by
  rw [Lm_unf P0 (M0 Ls) sp_272 10]
  rfl
set_option maxRecDepth 100000 in
theorem E_272_119 (Ls d : Nat) (x1 x2 : Int) (w : AW) : Lm P0 (M0 Ls) d m_M_findEndless 119 [some (.inr (.inr 113)), some (.inl x1), some (.inl x2)] [] w = Lm P0 (M0 Ls) d m_M_findEndless 72 [some (.inr (.inr 113)), some (.inl x1), some (.inl (w32 (x2 + 1)))] [] w := by
  rw [Lm_unf P0 (M0 Ls) sp_272 4]
  rfl
