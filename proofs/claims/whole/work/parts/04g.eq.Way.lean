def sp_152 : Nat → Bool := fun q => [0].contains q
set_option maxRecDepth 100000 in
theorem E_152_0 (Ls d : Nat) (w : AW) : Lm P0 (M0 Ls) d m_Way_forgetLeast 0 [some (.inr (.inr 99))] [] w = some (none, wC w 98 8 0) := by
  rw [Lm_unf P0 (M0 Ls) sp_152 5]
  rfl
def sp_153 : Nat → Bool := fun q => [0].contains q
set_option maxRecDepth 100000 in
theorem E_153_0 (Ls d : Nat) (w : AW) : Lm P0 (M0 Ls) d m_Way_forgetMend 0 [some (.inr (.inr 99))] [] w = some (none, wC w 98 10 0) := by
  rw [Lm_unf P0 (M0 Ls) sp_153 5]
  rfl
def sp_154 : Nat → Bool := fun q => [0, 15, 39, 53, 60, 70, 78].contains q
set_option maxRecDepth 100000 in
theorem E_154_0 (Ls d : Nat) (p1 : Int) (w : AW) : Lm P0 (M0 Ls) d m_Way_leastMotion 0 [some (.inr (.inr 99)), some (.inl p1), none] [] w = (if (rd w 98 8) = p1 then Lm P0 (M0 Ls) d m_Way_leastMotion 78 [some (.inr (.inr 99)), some (.inl p1), none] [] w else Lm P0 (M0 Ls) d m_Way_leastMotion 15 [some (.inr (.inr 99)), some (.inl p1), some (.inl 0)] [] (wC w 98 7 1)) := by
  rw [Lm_unf P0 (M0 Ls) sp_154 11]
  rfl
set_option maxRecDepth 100000 in
theorem E_154_15 (Ls d : Nat) (x1 x2 : Int) (w : AW) : Lm P0 (M0 Ls) d m_Way_leastMotion 15 [some (.inr (.inr 99)), some (.inl x1), some (.inl x2)] [] w = (if x2 < x1 then (if x2 < 60 then Lk P0 (M0 Ls) d m_State_lowDigit [.inr (.inr 57), .inl x2] w (fun r_ w_ => Lm P0 (M0 Ls) d m_Way_leastMotion 39 [some (.inr (.inr 99)), some (.inl x1), some (.inl x2)] (r_.toList ++ [.inl x2, .inr (.inr 100)]) w_) else Lm P0 (M0 Ls) d m_Way_leastMotion 60 [some (.inr (.inr 99)), some (.inl x1), some (.inl x2)] [] w) else Lm P0 (M0 Ls) d m_Way_leastMotion 60 [some (.inr (.inr 99)), some (.inl x1), some (.inl x2)] [] w) := by
  rw [Lm_unf P0 (M0 Ls) sp_154 14]
  rfl
set_option maxRecDepth 100000 in
theorem E_154_39 (Ls d : Nat) (x1 x2 y0 y1 : Int) (w : AW) : Lm P0 (M0 Ls) d m_Way_leastMotion 39 [some (.inr (.inr 99)), some (.inl x1), some (.inl x2)] [.inl y0, .inl y1, .inr (.inr 100)] w = (if 0 ≤ y1 ∧ y1 < 60 then Lk P0 (M0 Ls) d m_State_highDigit [.inr (.inr 57), .inl x2] (wC w 99 y1 y0) (fun r_ w_ => Lm P0 (M0 Ls) d m_Way_leastMotion 53 [some (.inr (.inr 99)), some (.inl x1), some (.inl x2)] (r_.toList ++ [.inl x2, .inr (.inr 101)]) w_) else none) := by
  rw [Lm_unf P0 (M0 Ls) sp_154 9]
  rfl
set_option maxRecDepth 100000 in
theorem E_154_53 (Ls d : Nat) (x1 x2 y0 y1 : Int) (w : AW) : Lm P0 (M0 Ls) d m_Way_leastMotion 53 [some (.inr (.inr 99)), some (.inl x1), some (.inl x2)] [.inl y0, .inl y1, .inr (.inr 101)] w = (if 0 ≤ y1 ∧ y1 < 60 then Lm P0 (M0 Ls) d m_Way_leastMotion 15 [some (.inr (.inr 99)), some (.inl x1), some (.inl (w32 (x2 + 1)))] [] (wC w 100 y1 y0) else none) := by
  rw [Lm_unf P0 (M0 Ls) sp_154 5]
  rfl
set_option maxRecDepth 100000 in
theorem E_154_60 (Ls d : Nat) (x1 x2 : Int) (w : AW) : Lm P0 (M0 Ls) d m_Way_leastMotion 60 [some (.inr (.inr 99)), some (.inl x1), some (.inl x2)] [] w = Lk P0 (M0 Ls) d m_Way_find [.inr (.inr 99), .inl x1, .inr (.inr 103)] w (fun r_ w_ => Lm P0 (M0 Ls) d m_Way_leastMotion 70 [some (.inr (.inr 99)), some (.inl x1), some (.inl x2)] (r_.toList ++ [.inr (.inr 99)]) w_) := by
  rw [Lm_unf P0 (M0 Ls) sp_154 7]
  rfl
set_option maxRecDepth 100000 in
theorem E_154_70 (Ls d : Nat) (x1 x2 y0 : Int) (w : AW) : Lm P0 (M0 Ls) d m_Way_leastMotion 70 [some (.inr (.inr 99)), some (.inl x1), some (.inl x2)] [.inl y0, .inr (.inr 99)] w = Lm P0 (M0 Ls) d m_Way_leastMotion 78 [some (.inr (.inr 99)), some (.inl x1), some (.inl x2)] [] (wC (wC w 98 9 y0) 98 8 x1) := by
  rw [Lm_unf P0 (M0 Ls) sp_154 6]
  rfl
set_option maxRecDepth 100000 in
theorem E_154_78 (Ls d : Nat) (x1 : Int) (u2 : Option AV) (w : AW) : Lm P0 (M0 Ls) d m_Way_leastMotion 78 [some (.inr (.inr 99)), some (.inl x1), u2] [] w = some (some (.inl (rd w 98 9)), w) := by
  rw [Lm_unf P0 (M0 Ls) sp_154 4]
  rfl
def sp_155 : Nat → Bool := fun q => [0, 10, 21].contains q
set_option maxRecDepth 100000 in
theorem E_155_0 (Ls d : Nat) (p1 : Int) (w : AW) : Lm P0 (M0 Ls) d m_Way_leastNote 0 [some (.inr (.inr 99)), some (.inl p1)] [] w = (if p1 < 0 then Lm P0 (M0 Ls) d m_Way_leastNote 10 [some (.inr (.inr 99)), some (.inl p1)] [] w else (if p1 < 60 then (if 0 ≤ p1 ∧ p1 < 60 then Lm P0 (M0 Ls) d m_Way_leastNote 21 [some (.inr (.inr 99)), some (.inl p1)] [.inl (rd w 102 p1)] w else none) else Lm P0 (M0 Ls) d m_Way_leastNote 10 [some (.inr (.inr 99)), some (.inl p1)] [] w)) := by
  rw [Lm_unf P0 (M0 Ls) sp_155 11]
  rfl
set_option maxRecDepth 100000 in
theorem E_155_10 (Ls d : Nat) (x1 : Int) (w : AW) : Lm P0 (M0 Ls) d m_Way_leastNote 10 [some (.inr (.inr 99)), some (.inl x1)] [] w = Lm P0 (M0 Ls) d m_Way_leastNote 21 [some (.inr (.inr 99)), some (.inl x1)] [.inl (-2)] w := by
  rw [Lm_unf P0 (M0 Ls) sp_155 4]
  rfl
set_option maxRecDepth 100000 in
theorem E_155_21 (Ls d : Nat) (x1 y0 : Int) (w : AW) : Lm P0 (M0 Ls) d m_Way_leastNote 21 [some (.inr (.inr 99)), some (.inl x1)] [.inl y0] w = some (some (.inl y0), w) := by
  rw [Lm_unf P0 (M0 Ls) sp_155 2]
  rfl
def sp_156 : Nat → Bool := fun q => [0, 14, 39, 47, 61, 78, 102, 109, 125, 133].contains q
set_option maxRecDepth 100000 in
theorem E_156_0 (Ls d : Nat) (w : AW) : Lm P0 (M0 Ls) d m_Way_fewestChanges 0 [some (.inr (.inr 99)), none, none] [] w = (if (rd w 98 10) = 0 then Lm P0 (M0 Ls) d m_Way_fewestChanges 14 [some (.inr (.inr 99)), some (.inl 0), none] [] (wC w 98 7 0) else Lm P0 (M0 Ls) d m_Way_fewestChanges 133 [some (.inr (.inr 99)), none, none] [] w) := by
  rw [Lm_unf P0 (M0 Ls) sp_156 10]
  rfl
set_option maxRecDepth 100000 in
theorem E_156_14 (Ls d : Nat) (x1 : Int) (u2 : Option AV) (w : AW) : Lm P0 (M0 Ls) d m_Way_fewestChanges 14 [some (.inr (.inr 99)), some (.inl x1), u2] [] w = (if x1 < (rd w 56 2) then (if x1 < 60 then Lk P0 (M0 Ls) d m_State_sung [.inr (.inr 57), .inl x1] w (fun r_ w_ => Lm P0 (M0 Ls) d m_Way_fewestChanges 39 [some (.inr (.inr 99)), some (.inl x1), u2] (r_.toList ++ []) w_) else Lm P0 (M0 Ls) d m_Way_fewestChanges 109 [some (.inr (.inr 99)), some (.inl x1), u2] [] w) else Lm P0 (M0 Ls) d m_Way_fewestChanges 109 [some (.inr (.inr 99)), some (.inl x1), u2] [] w) := by
  rw [Lm_unf P0 (M0 Ls) sp_156 13]
  rfl
set_option maxRecDepth 100000 in
theorem E_156_39 (Ls d : Nat) (x1 y0 : Int) (u2 : Option AV) (w : AW) : Lm P0 (M0 Ls) d m_Way_fewestChanges 39 [some (.inr (.inr 99)), some (.inl x1), u2] [.inl y0] w = (if y0 < 0 then Lm P0 (M0 Ls) d m_Way_fewestChanges 47 [some (.inr (.inr 99)), some (.inl x1), u2] [.inl 1] w else Lm P0 (M0 Ls) d m_Way_fewestChanges 47 [some (.inr (.inr 99)), some (.inl x1), u2] [.inl 0] w) := by
  rw [Lm_unf P0 (M0 Ls) sp_156 5]
  rfl
set_option maxRecDepth 100000 in
theorem E_156_47 (Ls d : Nat) (x1 y0 : Int) (u2 : Option AV) (w : AW) : Lm P0 (M0 Ls) d m_Way_fewestChanges 47 [some (.inr (.inr 99)), some (.inl x1), u2] [.inl y0] w = Lk P0 (M0 Ls) d m_State_sung [.inr (.inr 57), .inl x1] w (fun r_ w_ => Lm P0 (M0 Ls) d m_Way_fewestChanges 61 [some (.inr (.inr 99)), some (.inl x1), some (.inl y0)] (r_.toList ++ [.inl x1, .inr (.inr 102)]) w_) := by
  rw [Lm_unf P0 (M0 Ls) sp_156 9]
  rfl
set_option maxRecDepth 100000 in
theorem E_156_61 (Ls d : Nat) (x1 x2 y0 y1 : Int) (w : AW) : Lm P0 (M0 Ls) d m_Way_fewestChanges 61 [some (.inr (.inr 99)), some (.inl x1), some (.inl x2)] [.inl y0, .inl y1, .inr (.inr 102)] w = (if 0 ≤ y1 ∧ y1 < 60 then (if x2 = 0 then Lm P0 (M0 Ls) d m_Way_fewestChanges 78 [some (.inr (.inr 99)), some (.inl x1), some (.inl x2)] [.inl 1, .inl x1, .inr (.inr 100)] (wC w 101 y1 (w32 (y0 + 1))) else Lm P0 (M0 Ls) d m_Way_fewestChanges 78 [some (.inr (.inr 99)), some (.inl x1), some (.inl x2)] [.inl 0, .inl x1, .inr (.inr 100)] (wC w 101 y1 (w32 (y0 + 1)))) else none) := by
  rw [Lm_unf P0 (M0 Ls) sp_156 12]
  rfl
set_option maxRecDepth 100000 in
theorem E_156_78 (Ls d : Nat) (x1 x2 y0 y1 : Int) (w : AW) : Lm P0 (M0 Ls) d m_Way_fewestChanges 78 [some (.inr (.inr 99)), some (.inl x1), some (.inl x2)] [.inl y0, .inl y1, .inr (.inr 100)] w = (if 0 ≤ y1 ∧ y1 < 60 then (if x2 = 0 then Lm P0 (M0 Ls) d m_Way_fewestChanges 102 [some (.inr (.inr 99)), some (.inl x1), some (.inl x2)] [.inl (rd (wC w 99 y1 y0) 57 0), .inl x1, .inr (.inr 101)] (wC w 99 y1 y0) else Lm P0 (M0 Ls) d m_Way_fewestChanges 102 [some (.inr (.inr 99)), some (.inl x1), some (.inl x2)] [.inl 0, .inl x1, .inr (.inr 101)] (wC w 99 y1 y0)) else none) := by
  rw [Lm_unf P0 (M0 Ls) sp_156 12]
  rfl
set_option maxRecDepth 100000 in
theorem E_156_102 (Ls d : Nat) (x1 x2 y0 y1 : Int) (w : AW) : Lm P0 (M0 Ls) d m_Way_fewestChanges 102 [some (.inr (.inr 99)), some (.inl x1), some (.inl x2)] [.inl y0, .inl y1, .inr (.inr 101)] w = (if 0 ≤ y1 ∧ y1 < 60 then Lm P0 (M0 Ls) d m_Way_fewestChanges 14 [some (.inr (.inr 99)), some (.inl (w32 (x1 + 1))), some (.inl x2)] [] (wC w 100 y1 y0) else none) := by
  rw [Lm_unf P0 (M0 Ls) sp_156 5]
  rfl
set_option maxRecDepth 100000 in
theorem E_156_109 (Ls d : Nat) (x1 : Int) (u2 : Option AV) (w : AW) : Lm P0 (M0 Ls) d m_Way_fewestChanges 109 [some (.inr (.inr 99)), some (.inl x1), u2] [] w = Lk P0 (M0 Ls) d m_Way_find [.inr (.inr 99), .inl (rd w 56 2), .inr (.inr 104)] w (fun r_ w_ => Lm P0 (M0 Ls) d m_Way_fewestChanges 125 [some (.inr (.inr 99)), some (.inl x1), u2] (r_.toList ++ [.inr (.inr 99)]) w_) := by
  rw [Lm_unf P0 (M0 Ls) sp_156 9]
  rfl
set_option maxRecDepth 100000 in
theorem E_156_125 (Ls d : Nat) (x1 y0 : Int) (u2 : Option AV) (w : AW) : Lm P0 (M0 Ls) d m_Way_fewestChanges 125 [some (.inr (.inr 99)), some (.inl x1), u2] [.inl y0, .inr (.inr 99)] w = Lm P0 (M0 Ls) d m_Way_fewestChanges 133 [some (.inr (.inr 99)), some (.inl x1), u2] [] (wC (wC w 98 11 y0) 98 10 1) := by
  rw [Lm_unf P0 (M0 Ls) sp_156 6]
  rfl
set_option maxRecDepth 100000 in
theorem E_156_133 (Ls d : Nat) (u1 u2 : Option AV) (w : AW) : Lm P0 (M0 Ls) d m_Way_fewestChanges 133 [some (.inr (.inr 99)), u1, u2] [] w = some (some (.inl (rd w 98 11)), w) := by
  rw [Lm_unf P0 (M0 Ls) sp_156 4]
  rfl
def sp_157 : Nat → Bool := fun q => [0, 10, 21].contains q
set_option maxRecDepth 100000 in
theorem E_157_0 (Ls d : Nat) (p1 : Int) (w : AW) : Lm P0 (M0 Ls) d m_Way_mendedNote 0 [some (.inr (.inr 99)), some (.inl p1)] [] w = (if p1 < 0 then Lm P0 (M0 Ls) d m_Way_mendedNote 10 [some (.inr (.inr 99)), some (.inl p1)] [] w else (if p1 < 60 then (if 0 ≤ p1 ∧ p1 < 60 then Lm P0 (M0 Ls) d m_Way_mendedNote 21 [some (.inr (.inr 99)), some (.inl p1)] [.inl (rd w 103 p1)] w else none) else Lm P0 (M0 Ls) d m_Way_mendedNote 10 [some (.inr (.inr 99)), some (.inl p1)] [] w)) := by
  rw [Lm_unf P0 (M0 Ls) sp_157 11]
  rfl
set_option maxRecDepth 100000 in
theorem E_157_10 (Ls d : Nat) (x1 : Int) (w : AW) : Lm P0 (M0 Ls) d m_Way_mendedNote 10 [some (.inr (.inr 99)), some (.inl x1)] [] w = Lm P0 (M0 Ls) d m_Way_mendedNote 21 [some (.inr (.inr 99)), some (.inl x1)] [.inl (-2)] w := by
  rw [Lm_unf P0 (M0 Ls) sp_157 4]
  rfl
set_option maxRecDepth 100000 in
theorem E_157_21 (Ls d : Nat) (x1 y0 : Int) (w : AW) : Lm P0 (M0 Ls) d m_Way_mendedNote 21 [some (.inr (.inr 99)), some (.inl x1)] [.inl y0] w = some (some (.inl y0), w) := by
  rw [Lm_unf P0 (M0 Ls) sp_157 2]
  rfl
def sp_158 : Nat → Bool := fun q => [0, 11, 33, 40, 42, 52, 60, 77, 89, 96, 97, 115, 126, 135, 160].contains q
set_option maxRecDepth 100000 in
theorem E_158_0 (Ls d : Nat) (p1 p2 : Int) (w : AW) : Lm P0 (M0 Ls) d m_Way_find 0 [some (.inr (.inr 99)), some (.inl p1), some (.inr (.inr p2)), none, none] [] w = (if p1 < 1 then Lm P0 (M0 Ls) d m_Way_find 11 [some (.inr (.inr 99)), some (.inl p1), some (.inr (.inr p2)), none, none] [] w else (if 60 < p1 then Lm P0 (M0 Ls) d m_Way_find 11 [some (.inr (.inr 99)), some (.inl p1), some (.inr (.inr p2)), none, none] [] w else Lk P0 (M0 Ls) d m_Way_makeRows [.inr (.inr 99), .inl (w32 ((w32 (Int.tdiv (w32 ((w32 (p1 + 1)) * (rd w 94 8))) 16)) + 1))] w (fun r_ w_ => Lm P0 (M0 Ls) d m_Way_find 33 [some (.inr (.inr 99)), some (.inl p1), some (.inr (.inr p2)), none, none] (r_.toList ++ []) w_))) := by
  rw [Lm_unf P0 (M0 Ls) sp_158 20]
  rfl
set_option maxRecDepth 100000 in
theorem E_158_11 (Ls d : Nat) (x1 x2 : Int) (w : AW) : Lm P0 (M0 Ls) d m_Way_find 11 [some (.inr (.inr 99)), some (.inl x1), some (.inr (.inr x2)), none, none] [] w = some (some (.inl (-1)), w) := by
  rw [Lm_unf P0 (M0 Ls) sp_158 3]
  rfl
set_option maxRecDepth 100000 in
theorem E_158_33 (Ls d : Nat) (x1 x2 : Int) (w : AW) : Lm P0 (M0 Ls) d m_Way_find 33 [some (.inr (.inr 99)), some (.inl x1), some (.inr (.inr x2)), none, none] [] w = Lk P0 (M0 Ls) d m_Way_keep [.inr (.inr 99), .inl 0, .inl 0, .inl 1] w (fun r_ w_ => Lm P0 (M0 Ls) d m_Way_find 40 [some (.inr (.inr 99)), some (.inl x1), some (.inr (.inr x2)), none, none] (r_.toList ++ []) w_) := by
  rw [Lm_unf P0 (M0 Ls) sp_158 6]
  rfl
set_option maxRecDepth 100000 in
theorem E_158_40 (Ls d : Nat) (x1 x2 : Int) (w : AW) : Lm P0 (M0 Ls) d m_Way_find 40 [some (.inr (.inr 99)), some (.inl x1), some (.inr (.inr x2)), none, none] [] w = Lm P0 (M0 Ls) d m_Way_find 42 [some (.inr (.inr 99)), some (.inl x1), some (.inr (.inr x2)), some (.inl 0), none] [] w := by
  rw [Lm_unf P0 (M0 Ls) sp_158 4]
  rfl
set_option maxRecDepth 100000 in
theorem E_158_42 (Ls d : Nat) (x1 x2 x3 : Int) (w : AW) : Lm P0 (M0 Ls) d m_Way_find 42 [some (.inr (.inr 99)), some (.inl x1), some (.inr (.inr x2)), some (.inl x3), none] [] w = (if x3 < x1 then Lk P0 (M0 Ls) d m_Way_reachFrom [.inr (.inr 99), .inl x3] w (fun r_ w_ => Lm P0 (M0 Ls) d m_Way_find 52 [some (.inr (.inr 99)), some (.inl x1), some (.inr (.inr x2)), some (.inl x3), none] (r_.toList ++ []) w_) else Lm P0 (M0 Ls) d m_Way_find 60 [some (.inr (.inr 99)), some (.inl x1), some (.inr (.inr x2)), some (.inl 0), none] [] w) := by
  rw [Lm_unf P0 (M0 Ls) sp_158 7]
  rfl
set_option maxRecDepth 100000 in
theorem E_158_52 (Ls d : Nat) (x1 x2 x3 : Int) (w : AW) : Lm P0 (M0 Ls) d m_Way_find 52 [some (.inr (.inr 99)), some (.inl x1), some (.inr (.inr x2)), some (.inl x3), none] [] w = Lm P0 (M0 Ls) d m_Way_find 42 [some (.inr (.inr 99)), some (.inl x1), some (.inr (.inr x2)), some (.inl (w32 (x3 + 1))), none] [] w := by
  rw [Lm_unf P0 (M0 Ls) sp_158 4]
  rfl
set_option maxRecDepth 100000 in
theorem E_158_60 (Ls d : Nat) (x1 x2 x3 : Int) (u4 : Option AV) (w : AW) : Lm P0 (M0 Ls) d m_Way_find 60 [some (.inr (.inr 99)), some (.inl x1), some (.inr (.inr x2)), some (.inl x3), u4] [] w = (if x3 < (rd w 94 8) then Lk P0 (M0 Ls) d m_Way_keptOf [.inr (.inr 99), .inl x1, .inl x3] w (fun r_ w_ => Lm P0 (M0 Ls) d m_Way_find 77 [some (.inr (.inr 99)), some (.inl x1), some (.inr (.inr x2)), some (.inl x3), u4] (r_.toList ++ []) w_) else Lm P0 (M0 Ls) d m_Way_find 126 [some (.inr (.inr 99)), some (.inl x1), some (.inr (.inr x2)), some (.inl (w32 (x1 - 1))), u4] [] w) := by
  rw [Lm_unf P0 (M0 Ls) sp_158 11]
  rfl
set_option maxRecDepth 100000 in
theorem E_158_77 (Ls d : Nat) (x1 x2 x3 y0 : Int) (u4 : Option AV) (w : AW) : Lm P0 (M0 Ls) d m_Way_find 77 [some (.inr (.inr 99)), some (.inl x1), some (.inr (.inr x2)), some (.inl x3), u4] [.inl y0] w = (if y0 = 0 then Lm P0 (M0 Ls) d m_Way_find 96 [some (.inr (.inr 99)), some (.inl x1), some (.inr (.inr x2)), some (.inl x3), u4] [] w else Lk P0 (M0 Ls) d m_Tb_endsWell [.inr (.inr 95), .inl x1, .inl x3] w (fun r_ w_ => Lm P0 (M0 Ls) d m_Way_find 89 [some (.inr (.inr 99)), some (.inl x1), some (.inr (.inr x2)), some (.inl x3), u4] (r_.toList ++ []) w_)) := by
  rw [Lm_unf P0 (M0 Ls) sp_158 7]
  rfl
set_option maxRecDepth 100000 in
theorem E_158_89 (Ls d : Nat) (x1 x2 x3 y0 : Int) (u4 : Option AV) (w : AW) : Lm P0 (M0 Ls) d m_Way_find 89 [some (.inr (.inr 99)), some (.inl x1), some (.inr (.inr x2)), some (.inl x3), u4] [.inl y0] w = (if y0 = 0 then Lm P0 (M0 Ls) d m_Way_find 96 [some (.inr (.inr 99)), some (.inl x1), some (.inr (.inr x2)), some (.inl x3), u4] [] w else Lm P0 (M0 Ls) d m_Way_find 97 [some (.inr (.inr 99)), some (.inl x1), some (.inr (.inr x2)), some (.inl x3), u4] [.inl 1] w) := by
  rw [Lm_unf P0 (M0 Ls) sp_158 5]
  rfl
set_option maxRecDepth 100000 in
theorem E_158_96 (Ls d : Nat) (x1 x2 x3 : Int) (u4 : Option AV) (w : AW) : Lm P0 (M0 Ls) d m_Way_find 96 [some (.inr (.inr 99)), some (.inl x1), some (.inr (.inr x2)), some (.inl x3), u4] [] w = Lm P0 (M0 Ls) d m_Way_find 97 [some (.inr (.inr 99)), some (.inl x1), some (.inr (.inr x2)), some (.inl x3), u4] [.inl 0] w := by
  rw [Lm_unf P0 (M0 Ls) sp_158 3]
  rfl
set_option maxRecDepth 100000 in
theorem E_158_97 (Ls d : Nat) (x1 x2 x3 y0 : Int) (u4 : Option AV) (w : AW) : Lm P0 (M0 Ls) d m_Way_find 97 [some (.inr (.inr 99)), some (.inl x1), some (.inr (.inr x2)), some (.inl x3), u4] [.inl y0] w = (if y0 = 0 then Lm P0 (M0 Ls) d m_Way_find 115 [some (.inr (.inr 99)), some (.inl x1), some (.inr (.inr x2)), some (.inl x3), some (.inl y0)] [.inl 1000000, .inl x3, .inr (.inr (rd w 98 14))] w else Lm P0 (M0 Ls) d m_Way_find 115 [some (.inr (.inr 99)), some (.inl x1), some (.inr (.inr x2)), some (.inl x3), some (.inl y0)] [.inl 0, .inl x3, .inr (.inr (rd w 98 14))] w) := by
  rw [Lm_unf P0 (M0 Ls) sp_158 10]
  rfl
set_option maxRecDepth 100000 in
theorem E_158_115 (Ls d : Nat) (x1 x2 x3 x4 y0 y1 y2 : Int) (w : AW) : Lm P0 (M0 Ls) d m_Way_find 115 [some (.inr (.inr 99)), some (.inl x1), some (.inr (.inr x2)), some (.inl x3), some (.inl x4)] [.inl y0, .inl y1, .inr (.inr y2)] w = (arN (M0 Ls) w y2 100 100 100 none (fun a1 n1 => (if (0 : Int) ≤ y1 ∧ y1 < (n1 : Int) then Lm P0 (M0 Ls) d m_Way_find 60 [some (.inr (.inr 99)), some (.inl x1), some (.inr (.inr x2)), some (.inl (w32 (x3 + 1))), some (.inl x4)] [] (wC w a1 y1 y0) else none))) := by
  rw [Lm_unf P0 (M0 Ls) sp_158 5]
  rfl
set_option maxRecDepth 100000 in
theorem E_158_126 (Ls d : Nat) (x1 x2 x3 : Int) (u4 : Option AV) (w : AW) : Lm P0 (M0 Ls) d m_Way_find 126 [some (.inr (.inr 99)), some (.inl x1), some (.inr (.inr x2)), some (.inl x3), u4] [] w = (if x3 < 0 then (arN (M0 Ls) w (rd w 98 14) 100 110 110 none (fun a1 n1 => (if (0 : Int) ≤ 0 ∧ 0 < (n1 : Int) then (if (rd w a1 0) < 1000000 then Lk P0 (M0 Ls) d m_Way_follow [.inr (.inr 99), .inl x1, .inr (.inr x2)] w (fun r_ w_ => Lm P0 (M0 Ls) d m_Way_find 160 [some (.inr (.inr 99)), some (.inl x1), some (.inr (.inr x2)), some (.inl x3), u4] (r_.toList ++ []) w_) else some (some (.inl (-1)), w)) else none))) else Lk P0 (M0 Ls) d m_Way_chooseIn [.inr (.inr 99), .inl x3] w (fun r_ w_ => Lm P0 (M0 Ls) d m_Way_find 135 [some (.inr (.inr 99)), some (.inl x1), some (.inr (.inr x2)), some (.inl x3), u4] (r_.toList ++ []) w_)) := by
  rw [Lm_unf P0 (M0 Ls) sp_158 13]
  rfl
set_option maxRecDepth 100000 in
theorem E_158_135 (Ls d : Nat) (x1 x2 x3 : Int) (u4 : Option AV) (w : AW) : Lm P0 (M0 Ls) d m_Way_find 135 [some (.inr (.inr 99)), some (.inl x1), some (.inr (.inr x2)), some (.inl x3), u4] [] w = Lm P0 (M0 Ls) d m_Way_find 126 [some (.inr (.inr 99)), some (.inl x1), some (.inr (.inr x2)), some (.inl (w32 (x3 + (-1)))), u4] [] w := by
  rw [Lm_unf P0 (M0 Ls) sp_158 4]
  rfl
set_option maxRecDepth 100000 in
theorem E_158_160 (Ls d : Nat) (x1 x2 x3 : Int) (u4 : Option AV) (w : AW) : Lm P0 (M0 Ls) d m_Way_find 160 [some (.inr (.inr 99)), some (.inl x1), some (.inr (.inr x2)), some (.inl x3), u4] [] w = (arN (M0 Ls) w (rd w 98 14) 100 110 110 none (fun a1 n1 => (if (0 : Int) ≤ 0 ∧ 0 < (n1 : Int) then some (some (.inl (rd w a1 0)), w) else none))) := by
  rw [Lm_unf P0 (M0 Ls) sp_158 6]
  rfl
def sp_159 : Nat → Bool := fun q => [0, 16, 34, 40, 45, 67, 90, 96, 111, 121].contains q
set_option maxRecDepth 100000 in
theorem E_159_0 (Ls d : Nat) (p1 : Int) (w : AW) : Lm P0 (M0 Ls) d m_Way_makeRows 0 [some (.inr (.inr 99)), some (.inl p1), none] [] w = (if (rd w 98 12) = 0 then Lm P0 (M0 Ls) d m_Way_makeRows 16 [some (.inr (.inr 99)), some (.inl p1), none] [] w else (if 0 < (rd w 98 12) then (if 0 < (rd w 98 12) then (if 100 ≤ (shv (M0 Ls) w (adr (rd w 98 12))).1 ∧ (shv (M0 Ls) w (adr (rd w 98 12))).1 ≤ 112 then (if ((shv (M0 Ls) w (adr (rd w 98 12))).2 : Int) < p1 then Lm P0 (M0 Ls) d m_Way_makeRows 16 [some (.inr (.inr 99)), some (.inl p1), none] [] w else Lm P0 (M0 Ls) d m_Way_makeRows 45 [some (.inr (.inr 99)), some (.inl p1), none] [] w) else none) else none) else none)) := by
  rw [Lm_unf P0 (M0 Ls) sp_159 10]
  rfl
set_option maxRecDepth 100000 in
theorem E_159_16 (Ls d : Nat) (x1 : Int) (w : AW) : Lm P0 (M0 Ls) d m_Way_makeRows 16 [some (.inr (.inr 99)), some (.inl x1), none] [] w = (if (rd w 98 12) = 0 then Lm P0 (M0 Ls) d m_Way_makeRows 34 [some (.inr (.inr 99)), some (.inl x1), none] [.inl 0, .inl x1, .inr (.inr 99)] w else (if 0 < (rd w 98 12) then (if 0 < (rd w 98 12) then (if 100 ≤ (shv (M0 Ls) w (adr (rd w 98 12))).1 ∧ (shv (M0 Ls) w (adr (rd w 98 12))).1 ≤ 112 then Lm P0 (M0 Ls) d m_Way_makeRows 34 [some (.inr (.inr 99)), some (.inl x1), none] [.inl ((shv (M0 Ls) w (adr (rd w 98 12))).2 : Int), .inl x1, .inr (.inr 99)] w else none) else none) else none)) := by
  rw [Lm_unf P0 (M0 Ls) sp_159 10]
  rfl
set_option maxRecDepth 100000 in
theorem E_159_34 (Ls d : Nat) (x1 y0 y1 : Int) (w : AW) : Lm P0 (M0 Ls) d m_Way_makeRows 34 [some (.inr (.inr 99)), some (.inl x1), none] [.inl y0, .inl y1, .inr (.inr 99)] w = Lk P0 (M0 Ls) d m_E_roomFor [.inl y1, .inl y0, .inl 15617] w (fun r_ w_ => Lm P0 (M0 Ls) d m_Way_makeRows 40 [some (.inr (.inr 99)), some (.inl x1), none] (r_.toList ++ [.inr (.inr 99)]) w_) := by
  rw [Lm_unf P0 (M0 Ls) sp_159 3]
  rfl
set_option maxRecDepth 100000 in
theorem E_159_40 (Ls d : Nat) (x1 y0 : Int) (w : AW) : Lm P0 (M0 Ls) d m_Way_makeRows 40 [some (.inr (.inr 99)), some (.inl x1), none] [.inl y0, .inr (.inr 99)] w = (if 0 ≤ y0 ∧ y0 ≤ 1000000 then Lm P0 (M0 Ls) d m_Way_makeRows 45 [some (.inr (.inr 99)), some (.inl x1), none] [] (wC (alloc w 101 (Int.toNat y0)) 98 12 ((w.1 : Int) + 1)) else none) := by
  rw [Lm_unf P0 (M0 Ls) sp_159 4]
  rfl
set_option maxRecDepth 100000 in
theorem E_159_45 (Ls d : Nat) (x1 : Int) (w : AW) : Lm P0 (M0 Ls) d m_Way_makeRows 45 [some (.inr (.inr 99)), some (.inl x1), none] [] w = (if (rd w 98 13) = 0 then Lm P0 (M0 Ls) d m_Way_makeRows 67 [some (.inr (.inr 99)), some (.inl x1), none] [] w else (if 0 < (rd w 98 13) then (if 0 < (rd w 98 13) then (if 100 ≤ (shv (M0 Ls) w (adr (rd w 98 13))).1 ∧ (shv (M0 Ls) w (adr (rd w 98 13))).1 ≤ 112 then (if ((shv (M0 Ls) w (adr (rd w 98 13))).2 : Int) < (rd w 94 8) then Lm P0 (M0 Ls) d m_Way_makeRows 67 [some (.inr (.inr 99)), some (.inl x1), none] [] w else Lm P0 (M0 Ls) d m_Way_makeRows 111 [some (.inr (.inr 99)), some (.inl x1), none] [] w) else none) else none) else none)) := by
  rw [Lm_unf P0 (M0 Ls) sp_159 12]
  rfl
set_option maxRecDepth 100000 in
theorem E_159_67 (Ls d : Nat) (x1 : Int) (w : AW) : Lm P0 (M0 Ls) d m_Way_makeRows 67 [some (.inr (.inr 99)), some (.inl x1), none] [] w = (if (rd w 98 13) = 0 then Lm P0 (M0 Ls) d m_Way_makeRows 90 [some (.inr (.inr 99)), some (.inl x1), none] [.inl 0, .inl (rd w 94 8)] w else (if 0 < (rd w 98 13) then (if 0 < (rd w 98 13) then (if 100 ≤ (shv (M0 Ls) w (adr (rd w 98 13))).1 ∧ (shv (M0 Ls) w (adr (rd w 98 13))).1 ≤ 112 then Lm P0 (M0 Ls) d m_Way_makeRows 90 [some (.inr (.inr 99)), some (.inl x1), none] [.inl ((shv (M0 Ls) w (adr (rd w 98 13))).2 : Int), .inl (rd w 94 8)] w else none) else none) else none)) := by
  rw [Lm_unf P0 (M0 Ls) sp_159 11]
  rfl
set_option maxRecDepth 100000 in
theorem E_159_90 (Ls d : Nat) (x1 y0 y1 : Int) (w : AW) : Lm P0 (M0 Ls) d m_Way_makeRows 90 [some (.inr (.inr 99)), some (.inl x1), none] [.inl y0, .inl y1] w = Lk P0 (M0 Ls) d m_E_roomFor [.inl y1, .inl y0, .inl 4096] w (fun r_ w_ => Lm P0 (M0 Ls) d m_Way_makeRows 96 [some (.inr (.inr 99)), some (.inl x1), none] (r_.toList ++ []) w_) := by
  rw [Lm_unf P0 (M0 Ls) sp_159 3]
  rfl
set_option maxRecDepth 100000 in
theorem E_159_96 (Ls d : Nat) (x1 y0 : Int) (w : AW) : Lm P0 (M0 Ls) d m_Way_makeRows 96 [some (.inr (.inr 99)), some (.inl x1), none] [.inl y0] w = (if 0 ≤ y0 ∧ y0 ≤ 1000000 then (if 0 ≤ y0 ∧ y0 ≤ 1000000 then Lm P0 (M0 Ls) d m_Way_makeRows 111 [some (.inr (.inr 99)), some (.inl x1), some (.inl y0)] [] (wC (alloc (wC (alloc w 100 (Int.toNat y0)) 98 13 ((w.1 : Int) + 1)) 100 (Int.toNat y0)) 98 14 (((wC (alloc w 100 (Int.toNat y0)) 98 13 ((w.1 : Int) + 1)).1 : Int) + 1)) else none) else none) := by
  rw [Lm_unf P0 (M0 Ls) sp_159 11]
  rfl
set_option maxRecDepth 100000 in
theorem E_159_111 (Ls d : Nat) (x1 : Int) (u2 : Option AV) (w : AW) : Lm P0 (M0 Ls) d m_Way_makeRows 111 [some (.inr (.inr 99)), some (.inl x1), u2] [] w = Lk P0 (M0 Ls) d m_Arrays_fill3 [.inr (.inr (rd w 98 12)), .inl 0, .inl x1, .inr (.inl 0)] w (fun r_ w_ => Lm P0 (M0 Ls) d m_Way_makeRows 121 [some (.inr (.inr 99)), some (.inl x1), u2] (r_.toList ++ []) w_) := by
  rw [Lm_unf P0 (M0 Ls) sp_159 7]
  rfl
set_option maxRecDepth 100000 in
theorem E_159_121 (Ls d : Nat) (x1 : Int) (u2 : Option AV) (w : AW) : Lm P0 (M0 Ls) d m_Way_makeRows 121 [some (.inr (.inr 99)), some (.inl x1), u2] [] w = some (none, w) := by
  rw [Lm_unf P0 (M0 Ls) sp_159 2]
  rfl
def sp_160 : Nat → Bool := fun q => [0, 2, 19, 35, 44, 83, 87, 93].contains q
set_option maxRecDepth 100000 in
theorem E_160_0 (Ls d : Nat) (p1 : Int) (w : AW) : Lm P0 (M0 Ls) d m_Way_reachFrom 0 [some (.inr (.inr 99)), some (.inl p1), none, none, none] [] w = Lm P0 (M0 Ls) d m_Way_reachFrom 2 [some (.inr (.inr 99)), some (.inl p1), some (.inl 0), none, none] [] w := by
  rw [Lm_unf P0 (M0 Ls) sp_160 4]
  rfl
set_option maxRecDepth 100000 in
theorem E_160_2 (Ls d : Nat) (x1 x2 : Int) (u3 u4 : Option AV) (w : AW) : Lm P0 (M0 Ls) d m_Way_reachFrom 2 [some (.inr (.inr 99)), some (.inl x1), some (.inl x2), u3, u4] [] w = (if x2 < (rd w 94 8) then Lk P0 (M0 Ls) d m_Way_keptOf [.inr (.inr 99), .inl x1, .inl x2] w (fun r_ w_ => Lm P0 (M0 Ls) d m_Way_reachFrom 19 [some (.inr (.inr 99)), some (.inl x1), some (.inl x2), u3, u4] (r_.toList ++ []) w_) else some (none, w)) := by
  rw [Lm_unf P0 (M0 Ls) sp_160 10]
  rfl
set_option maxRecDepth 100000 in
theorem E_160_19 (Ls d : Nat) (x1 x2 y0 : Int) (u3 u4 : Option AV) (w : AW) : Lm P0 (M0 Ls) d m_Way_reachFrom 19 [some (.inr (.inr 99)), some (.inl x1), some (.inl x2), u3, u4] [.inl y0] w = (if y0 = 0 then Lm P0 (M0 Ls) d m_Way_reachFrom 35 [some (.inr (.inr 99)), some (.inl x1), some (.inl x2), u3, u4] [.inl 0] w else Lk P0 (M0 Ls) d m_Tb_allowedIn [.inr (.inr 95), .inl x1, .inl x2] w (fun r_ w_ => Lm P0 (M0 Ls) d m_Way_reachFrom 35 [some (.inr (.inr 99)), some (.inl x1), some (.inl x2), u3, u4] (r_.toList ++ []) w_)) := by
  rw [Lm_unf P0 (M0 Ls) sp_160 7]
  rfl
set_option maxRecDepth 100000 in
theorem E_160_35 (Ls d : Nat) (x1 x2 y0 : Int) (u3 u4 : Option AV) (w : AW) : Lm P0 (M0 Ls) d m_Way_reachFrom 35 [some (.inr (.inr 99)), some (.inl x1), some (.inl x2), u3, u4] [.inl y0] w = (if 0 ≤ x1 ∧ x1 < 60 then Lm P0 (M0 Ls) d m_Way_reachFrom 44 [some (.inr (.inr 99)), some (.inl x1), some (.inl x2), some (.inl y0), some (.inl (rd w 99 x1))] [] w else none) := by
  rw [Lm_unf P0 (M0 Ls) sp_160 8]
  rfl
set_option maxRecDepth 100000 in
theorem E_160_44 (Ls d : Nat) (x1 x2 x3 x4 : Int) (w : AW) : Lm P0 (M0 Ls) d m_Way_reachFrom 44 [some (.inr (.inr 99)), some (.inl x1), some (.inl x2), some (.inl x3), some (.inl x4)] [] w = (if 0 ≤ x1 ∧ x1 < 60 then (if (rd w 100 x1) < x4 then Lm P0 (M0 Ls) d m_Way_reachFrom 93 [some (.inr (.inr 99)), some (.inl x1), some (.inl x2), some (.inl x3), some (.inl x4)] [] w else (if x3 = 0 then Lm P0 (M0 Ls) d m_Way_reachFrom 93 [some (.inr (.inr 99)), some (.inl x1), some (.inl x2), some (.inl x3), some (.inl x4)] [] w else (if (i32 (fun x y => x &&& y) (i32 (fun x y => x >>> (y &&& 31)) x3 x4) 1) = 1 then Lk P0 (M0 Ls) d m_Tb_after [.inr (.inr 95), .inl x2, .inl x4] w (fun r_ w_ => Lm P0 (M0 Ls) d m_Way_reachFrom 83 [some (.inr (.inr 99)), some (.inl x1), some (.inl x2), some (.inl x3), some (.inl x4)] (r_.toList ++ [.inl (w32 (x1 + 1)), .inr (.inr 99)]) w_) else Lm P0 (M0 Ls) d m_Way_reachFrom 87 [some (.inr (.inr 99)), some (.inl x1), some (.inl x2), some (.inl x3), some (.inl x4)] [] w))) else none) := by
  rw [Lm_unf P0 (M0 Ls) sp_160 25]
  rfl
set_option maxRecDepth 100000 in
theorem E_160_83 (Ls d : Nat) (x1 x2 x3 x4 y0 y1 : Int) (w : AW) : Lm P0 (M0 Ls) d m_Way_reachFrom 83 [some (.inr (.inr 99)), some (.inl x1), some (.inl x2), some (.inl x3), some (.inl x4)] [.inl y0, .inl y1, .inr (.inr 99)] w = Lk P0 (M0 Ls) d m_Way_keep [.inr (.inr 99), .inl y1, .inl y0, .inl 1] w (fun r_ w_ => Lm P0 (M0 Ls) d m_Way_reachFrom 87 [some (.inr (.inr 99)), some (.inl x1), some (.inl x2), some (.inl x3), some (.inl x4)] (r_.toList ++ []) w_) := by
  rw [Lm_unf P0 (M0 Ls) sp_160 3]
  rfl
set_option maxRecDepth 100000 in
theorem E_160_87 (Ls d : Nat) (x1 x2 x3 x4 : Int) (w : AW) : Lm P0 (M0 Ls) d m_Way_reachFrom 87 [some (.inr (.inr 99)), some (.inl x1), some (.inl x2), some (.inl x3), some (.inl x4)] [] w = Lm P0 (M0 Ls) d m_Way_reachFrom 44 [some (.inr (.inr 99)), some (.inl x1), some (.inl x2), some (.inl x3), some (.inl (w32 (x4 + 1)))] [] w := by
  rw [Lm_unf P0 (M0 Ls) sp_160 4]
  rfl
set_option maxRecDepth 100000 in
theorem E_160_93 (Ls d : Nat) (x1 x2 x3 x4 : Int) (w : AW) : Lm P0 (M0 Ls) d m_Way_reachFrom 93 [some (.inr (.inr 99)), some (.inl x1), some (.inl x2), some (.inl x3), some (.inl x4)] [] w = Lm P0 (M0 Ls) d m_Way_reachFrom 2 [some (.inr (.inr 99)), some (.inl x1), some (.inl (w32 (x2 + 1))), some (.inl x3), some (.inl x4)] [] w := by
  rw [Lm_unf P0 (M0 Ls) sp_160 4]
  rfl
def sp_161 : Nat → Bool := fun q => [0, 2, 27, 36].contains q
set_option maxRecDepth 100000 in
theorem E_161_0 (Ls d : Nat) (p1 : Int) (w : AW) : Lm P0 (M0 Ls) d m_Way_chooseIn 0 [some (.inr (.inr 99)), some (.inl p1), none] [] w = Lm P0 (M0 Ls) d m_Way_chooseIn 2 [some (.inr (.inr 99)), some (.inl p1), some (.inl 0)] [] w := by
  rw [Lm_unf P0 (M0 Ls) sp_161 4]
  rfl
set_option maxRecDepth 100000 in
theorem E_161_2 (Ls d : Nat) (x1 x2 : Int) (w : AW) : Lm P0 (M0 Ls) d m_Way_chooseIn 2 [some (.inr (.inr 99)), some (.inl x1), some (.inl x2)] [] w = (if x2 < (rd w 94 8) then (arN (M0 Ls) w (rd w 98 13) 100 100 100 none (fun a1 n1 => (if (0 : Int) ≤ x2 ∧ x2 < (n1 : Int) then Lk P0 (M0 Ls) d m_Way_keptOf [.inr (.inr 99), .inl x1, .inl x2] (wC w a1 x2 1000000) (fun r_ w_ => Lm P0 (M0 Ls) d m_Way_chooseIn 27 [some (.inr (.inr 99)), some (.inl x1), some (.inl x2)] (r_.toList ++ []) w_) else none))) else some (none, wC (wC w 98 14 (rd w 98 13)) 98 13 (rd w 98 14))) := by
  rw [Lm_unf P0 (M0 Ls) sp_161 17]
  rfl
set_option maxRecDepth 100000 in
theorem E_161_27 (Ls d : Nat) (x1 x2 y0 : Int) (w : AW) : Lm P0 (M0 Ls) d m_Way_chooseIn 27 [some (.inr (.inr 99)), some (.inl x1), some (.inl x2)] [.inl y0] w = (if y0 = 0 then Lm P0 (M0 Ls) d m_Way_chooseIn 36 [some (.inr (.inr 99)), some (.inl x1), some (.inl x2)] [] w else Lk P0 (M0 Ls) d m_Way_choose [.inr (.inr 99), .inl x1, .inl x2] w (fun r_ w_ => Lm P0 (M0 Ls) d m_Way_chooseIn 36 [some (.inr (.inr 99)), some (.inl x1), some (.inl x2)] (r_.toList ++ []) w_)) := by
  rw [Lm_unf P0 (M0 Ls) sp_161 6]
  rfl
set_option maxRecDepth 100000 in
theorem E_161_36 (Ls d : Nat) (x1 x2 : Int) (w : AW) : Lm P0 (M0 Ls) d m_Way_chooseIn 36 [some (.inr (.inr 99)), some (.inl x1), some (.inl x2)] [] w = Lm P0 (M0 Ls) d m_Way_chooseIn 2 [some (.inr (.inr 99)), some (.inl x1), some (.inl (w32 (x2 + 1)))] [] w := by
  rw [Lm_unf P0 (M0 Ls) sp_161 4]
  rfl
def sp_162 : Nat → Bool := fun q => [0, 11, 21, 59, 68, 95, 108].contains q
set_option maxRecDepth 100000 in
theorem E_162_0 (Ls d : Nat) (p1 p2 : Int) (w : AW) : Lm P0 (M0 Ls) d m_Way_choose 0 [some (.inr (.inr 99)), some (.inl p1), some (.inl p2), none, none, none, none] [] w = Lk P0 (M0 Ls) d m_Tb_allowedIn [.inr (.inr 95), .inl p1, .inl p2] w (fun r_ w_ => Lm P0 (M0 Ls) d m_Way_choose 11 [some (.inr (.inr 99)), some (.inl p1), some (.inl p2), some (.inl 1), none, none, none] (r_.toList ++ []) w_) := by
  rw [Lm_unf P0 (M0 Ls) sp_162 8]
  rfl
set_option maxRecDepth 100000 in
theorem E_162_11 (Ls d : Nat) (x1 x2 x3 y0 : Int) (w : AW) : Lm P0 (M0 Ls) d m_Way_choose 11 [some (.inr (.inr 99)), some (.inl x1), some (.inl x2), some (.inl x3), none, none, none] [.inl y0] w = (if 0 ≤ x1 ∧ x1 < 60 then Lm P0 (M0 Ls) d m_Way_choose 21 [some (.inr (.inr 99)), some (.inl x1), some (.inl x2), some (.inl x3), some (.inl y0), some (.inl (rd w 99 x1)), none] [] w else none) := by
  rw [Lm_unf P0 (M0 Ls) sp_162 8]
  rfl
set_option maxRecDepth 100000 in
theorem E_162_21 (Ls d : Nat) (x1 x2 x3 x4 x5 : Int) (u6 : Option AV) (w : AW) : Lm P0 (M0 Ls) d m_Way_choose 21 [some (.inr (.inr 99)), some (.inl x1), some (.inl x2), some (.inl x3), some (.inl x4), some (.inl x5), u6] [] w = (if 0 ≤ x1 ∧ x1 < 60 then (if (rd w 100 x1) < x5 then Lk P0 (M0 Ls) d m_Way_keep [.inr (.inr 99), .inl x1, .inl x2, .inl x3] w (fun r_ w_ => Lm P0 (M0 Ls) d m_Way_choose 108 [some (.inr (.inr 99)), some (.inl x1), some (.inl x2), some (.inl x3), some (.inl x4), some (.inl x5), u6] (r_.toList ++ []) w_) else (if (i32 (fun x y => x &&& y) (i32 (fun x y => x >>> (y &&& 31)) x4 x5) 1) = 0 then Lm P0 (M0 Ls) d m_Way_choose 95 [some (.inr (.inr 99)), some (.inl x1), some (.inl x2), some (.inl x3), some (.inl x4), some (.inl x5), u6] [] w else Lk P0 (M0 Ls) d m_Tb_after [.inr (.inr 95), .inl x2, .inl x5] w (fun r_ w_ => Lm P0 (M0 Ls) d m_Way_choose 59 [some (.inr (.inr 99)), some (.inl x1), some (.inl x2), some (.inl x3), some (.inl x4), some (.inl x5), u6] (r_.toList ++ [.inr (.inr (rd w 98 14))]) w_))) else none) := by
  rw [Lm_unf P0 (M0 Ls) sp_162 20]
  rfl
set_option maxRecDepth 100000 in
theorem E_162_59 (Ls d : Nat) (x1 x2 x3 x4 x5 y0 y1 : Int) (u6 : Option AV) (w : AW) : Lm P0 (M0 Ls) d m_Way_choose 59 [some (.inr (.inr 99)), some (.inl x1), some (.inl x2), some (.inl x3), some (.inl x4), some (.inl x5), u6] [.inl y0, .inr (.inr y1)] w = (arN (M0 Ls) w y1 100 110 110 none (fun a1 n1 => (if (0 : Int) ≤ y0 ∧ y0 < (n1 : Int) then Lk P0 (M0 Ls) d m_Way_costOf [.inr (.inr 99), .inl x1, .inl x2, .inl x5] w (fun r_ w_ => Lm P0 (M0 Ls) d m_Way_choose 68 [some (.inr (.inr 99)), some (.inl x1), some (.inl x2), some (.inl x3), some (.inl x4), some (.inl x5), u6] (r_.toList ++ [.inl (rd w a1 y0)]) w_) else none))) := by
  rw [Lm_unf P0 (M0 Ls) sp_162 7]
  rfl
set_option maxRecDepth 100000 in
theorem E_162_68 (Ls d : Nat) (x1 x2 x3 x4 x5 y0 y1 : Int) (u6 : Option AV) (w : AW) : Lm P0 (M0 Ls) d m_Way_choose 68 [some (.inr (.inr 99)), some (.inl x1), some (.inl x2), some (.inl x3), some (.inl x4), some (.inl x5), u6] [.inl y0, .inl y1] w = (arN (M0 Ls) w (rd w 98 13) 100 110 110 none (fun a1 n1 => (if (0 : Int) ≤ x2 ∧ x2 < (n1 : Int) then (if (w32 (y1 + y0)) < (rd w a1 x2) then (arN (M0 Ls) w (rd w 98 13) 100 100 100 none (fun a2 n2 => (if (0 : Int) ≤ x2 ∧ x2 < (n2 : Int) then Lm P0 (M0 Ls) d m_Way_choose 95 [some (.inr (.inr 99)), some (.inl x1), some (.inl x2), some (.inl (w32 (2 + x5))), some (.inl x4), some (.inl x5), some (.inl (w32 (y1 + y0)))] [] (wC w a2 x2 (w32 (y1 + y0))) else none))) else Lm P0 (M0 Ls) d m_Way_choose 95 [some (.inr (.inr 99)), some (.inl x1), some (.inl x2), some (.inl x3), some (.inl x4), some (.inl x5), some (.inl (w32 (y1 + y0)))] [] w) else none))) := by
  rw [Lm_unf P0 (M0 Ls) sp_162 19]
  rfl
set_option maxRecDepth 100000 in
theorem E_162_95 (Ls d : Nat) (x1 x2 x3 x4 x5 : Int) (u6 : Option AV) (w : AW) : Lm P0 (M0 Ls) d m_Way_choose 95 [some (.inr (.inr 99)), some (.inl x1), some (.inl x2), some (.inl x3), some (.inl x4), some (.inl x5), u6] [] w = Lm P0 (M0 Ls) d m_Way_choose 21 [some (.inr (.inr 99)), some (.inl x1), some (.inl x2), some (.inl x3), some (.inl x4), some (.inl (w32 (x5 + 1))), u6] [] w := by
  rw [Lm_unf P0 (M0 Ls) sp_162 4]
  rfl
set_option maxRecDepth 100000 in
theorem E_162_108 (Ls d : Nat) (x1 x2 x3 x4 x5 : Int) (u6 : Option AV) (w : AW) : Lm P0 (M0 Ls) d m_Way_choose 108 [some (.inr (.inr 99)), some (.inl x1), some (.inl x2), some (.inl x3), some (.inl x4), some (.inl x5), u6] [] w = some (none, w) := by
  rw [Lm_unf P0 (M0 Ls) sp_162 2]
  rfl
def sp_163 : Nat → Bool := fun q => [0, 22, 31, 42, 53].contains q
set_option maxRecDepth 100000 in
theorem E_163_0 (Ls d : Nat) (p1 p2 p3 : Int) (w : AW) : Lm P0 (M0 Ls) d m_Way_costOf 0 [some (.inr (.inr 99)), some (.inl p1), some (.inl p2), some (.inl p3), none] [] w = (if (rd w 98 7) = 0 then (if 0 ≤ p1 ∧ p1 < 60 then (if p3 = (rd w 101 p1) then Lm P0 (M0 Ls) d m_Way_costOf 22 [some (.inr (.inr 99)), some (.inl p1), some (.inl p2), some (.inl p3), none] [.inl 0] w else Lm P0 (M0 Ls) d m_Way_costOf 22 [some (.inr (.inr 99)), some (.inl p1), some (.inl p2), some (.inl p3), none] [.inl 1] w) else none) else Lk P0 (M0 Ls) d m_Tb_lastDigit [.inr (.inr 95), .inl p2] w (fun r_ w_ => Lm P0 (M0 Ls) d m_Way_costOf 31 [some (.inr (.inr 99)), some (.inl p1), some (.inl p2), some (.inl p3), none] (r_.toList ++ []) w_)) := by
  rw [Lm_unf P0 (M0 Ls) sp_163 13]
  rfl
set_option maxRecDepth 100000 in
theorem E_163_22 (Ls d : Nat) (x1 x2 x3 y0 : Int) (w : AW) : Lm P0 (M0 Ls) d m_Way_costOf 22 [some (.inr (.inr 99)), some (.inl x1), some (.inl x2), some (.inl x3), none] [.inl y0] w = some (some (.inl y0), w) := by
  rw [Lm_unf P0 (M0 Ls) sp_163 2]
  rfl
set_option maxRecDepth 100000 in
theorem E_163_31 (Ls d : Nat) (x1 x2 x3 y0 : Int) (w : AW) : Lm P0 (M0 Ls) d m_Way_costOf 31 [some (.inr (.inr 99)), some (.inl x1), some (.inl x2), some (.inl x3), none] [.inl y0] w = (if y0 = 0 then Lm P0 (M0 Ls) d m_Way_costOf 42 [some (.inr (.inr 99)), some (.inl x1), some (.inl x2), some (.inl x3), some (.inl y0)] [] w else (if x3 = 0 then Lm P0 (M0 Ls) d m_Way_costOf 42 [some (.inr (.inr 99)), some (.inl x1), some (.inl x2), some (.inl x3), some (.inl y0)] [] w else Lk P0 (M0 Ls) d m_Math_abs [.inl (w32 (x3 - y0))] w (fun r_ w_ => Lm P0 (M0 Ls) d m_Way_costOf 53 [some (.inr (.inr 99)), some (.inl x1), some (.inl x2), some (.inl x3), some (.inl y0)] (r_.toList ++ []) w_))) := by
  rw [Lm_unf P0 (M0 Ls) sp_163 10]
  rfl
set_option maxRecDepth 100000 in
theorem E_163_42 (Ls d : Nat) (x1 x2 x3 x4 : Int) (w : AW) : Lm P0 (M0 Ls) d m_Way_costOf 42 [some (.inr (.inr 99)), some (.inl x1), some (.inl x2), some (.inl x3), some (.inl x4)] [] w = Lm P0 (M0 Ls) d m_Way_costOf 53 [some (.inr (.inr 99)), some (.inl x1), some (.inl x2), some (.inl x3), some (.inl x4)] [.inl 0] w := by
  rw [Lm_unf P0 (M0 Ls) sp_163 4]
  rfl
set_option maxRecDepth 100000 in
theorem E_163_53 (Ls d : Nat) (x1 x2 x3 x4 y0 : Int) (w : AW) : Lm P0 (M0 Ls) d m_Way_costOf 53 [some (.inr (.inr 99)), some (.inl x1), some (.inl x2), some (.inl x3), some (.inl x4)] [.inl y0] w = some (some (.inl y0), w) := by
  rw [Lm_unf P0 (M0 Ls) sp_163 2]
  rfl
def sp_164 : Nat → Bool := fun q => [0, 5, 19, 24, 44].contains q
set_option maxRecDepth 100000 in
theorem E_164_0 (Ls d : Nat) (p1 p2 : Int) (w : AW) : Lm P0 (M0 Ls) d m_Way_follow 0 [some (.inr (.inr 99)), some (.inl p1), some (.inr (.inr p2)), none, none, none] [] w = Lm P0 (M0 Ls) d m_Way_follow 5 [some (.inr (.inr 99)), some (.inl p1), some (.inr (.inr p2)), some (.inl 0), some (.inl 0), none] [] w := by
  rw [Lm_unf P0 (M0 Ls) sp_164 6]
  rfl
set_option maxRecDepth 100000 in
theorem E_164_5 (Ls d : Nat) (x1 x2 x3 x4 : Int) (u5 : Option AV) (w : AW) : Lm P0 (M0 Ls) d m_Way_follow 5 [some (.inr (.inr 99)), some (.inl x1), some (.inr (.inr x2)), some (.inl x3), some (.inl x4), u5] [] w = (if x4 < x1 then Lk P0 (M0 Ls) d m_Way_keptOf [.inr (.inr 99), .inl x4, .inl x3] w (fun r_ w_ => Lm P0 (M0 Ls) d m_Way_follow 19 [some (.inr (.inr 99)), some (.inl x1), some (.inr (.inr x2)), some (.inl x3), some (.inl x4), u5] (r_.toList ++ [.inl 0]) w_) else some (none, w)) := by
  rw [Lm_unf P0 (M0 Ls) sp_164 9]
  rfl
set_option maxRecDepth 100000 in
theorem E_164_19 (Ls d : Nat) (x1 x2 x3 x4 y0 y1 : Int) (u5 : Option AV) (w : AW) : Lm P0 (M0 Ls) d m_Way_follow 19 [some (.inr (.inr 99)), some (.inl x1), some (.inr (.inr x2)), some (.inl x3), some (.inl x4), u5] [.inl y0, .inl y1] w = Lk P0 (M0 Ls) d m_Math_max [.inl y1, .inl (w32 (y0 - 2))] w (fun r_ w_ => Lm P0 (M0 Ls) d m_Way_follow 24 [some (.inr (.inr 99)), some (.inl x1), some (.inr (.inr x2)), some (.inl x3), some (.inl x4), u5] (r_.toList ++ []) w_) := by
  rw [Lm_unf P0 (M0 Ls) sp_164 4]
  rfl
set_option maxRecDepth 100000 in
theorem E_164_24 (Ls d : Nat) (x1 x2 x3 x4 y0 : Int) (u5 : Option AV) (w : AW) : Lm P0 (M0 Ls) d m_Way_follow 24 [some (.inr (.inr 99)), some (.inl x1), some (.inr (.inr x2)), some (.inl x3), some (.inl x4), u5] [.inl y0] w = (arN (M0 Ls) w x2 100 100 100 none (fun a1 n1 => (if (0 : Int) ≤ x4 ∧ x4 < (n1 : Int) then Lk P0 (M0 Ls) d m_Tb_after [.inr (.inr 95), .inl x3, .inl y0] (wC w a1 x4 (w32 (y0 - 1))) (fun r_ w_ => Lm P0 (M0 Ls) d m_Way_follow 44 [some (.inr (.inr 99)), some (.inl x1), some (.inr (.inr x2)), some (.inl x3), some (.inl x4), some (.inl y0)] (r_.toList ++ []) w_) else none))) := by
  rw [Lm_unf P0 (M0 Ls) sp_164 13]
  rfl
set_option maxRecDepth 100000 in
theorem E_164_44 (Ls d : Nat) (x1 x2 x3 x4 x5 y0 : Int) (w : AW) : Lm P0 (M0 Ls) d m_Way_follow 44 [some (.inr (.inr 99)), some (.inl x1), some (.inr (.inr x2)), some (.inl x3), some (.inl x4), some (.inl x5)] [.inl y0] w = Lm P0 (M0 Ls) d m_Way_follow 5 [some (.inr (.inr 99)), some (.inl x1), some (.inr (.inr x2)), some (.inl y0), some (.inl (w32 (x4 + 1))), some (.inl x5)] [] w := by
  rw [Lm_unf P0 (M0 Ls) sp_164 5]
  rfl
def sp_165 : Nat → Bool := fun q => [0].contains q
set_option maxRecDepth 100000 in
theorem E_165_0 (Ls d : Nat) (p1 p2 : Int) (w : AW) : Lm P0 (M0 Ls) d m_Way_keptOf 0 [some (.inr (.inr 99)), some (.inl p1), some (.inl p2), none] [] w = (arN (M0 Ls) w (rd w 98 12) 101 101 101 none (fun a1 n1 => (if (0 : Int) ≤ (w32 (Int.tdiv (w32 ((w32 (p1 * (rd w 94 8))) + p2)) 16)) ∧ (w32 (Int.tdiv (w32 ((w32 (p1 * (rd w 94 8))) + p2)) 16)) < (n1 : Int) then some (some (.inl (i32 (fun x y => x &&& y) (w32 ((Int64.ofInt (rd w a1 (w32 (Int.tdiv (w32 ((w32 (p1 * (rd w 94 8))) + p2)) 16))) >>> ((Int32.ofInt (w32 (4 * (Int.tmod (w32 ((w32 (p1 * (rd w 94 8))) + p2)) 16)))).toInt64 &&& 63)).toInt)) 15)), w) else none))) := by
  rw [Lm_unf P0 (M0 Ls) sp_165 25]
  rfl
def sp_166 : Nat → Bool := fun q => [0].contains q
set_option maxRecDepth 100000 in
theorem E_166_0 (Ls d : Nat) (p1 p2 p3 : Int) (w : AW) : Lm P0 (M0 Ls) d m_Way_keep 0 [some (.inr (.inr 99)), some (.inl p1), some (.inl p2), some (.inl p3), none, none, none, none] [] w = (arN (M0 Ls) w (rd w 98 12) 101 101 101 none (fun a1 n1 => (if (0 : Int) ≤ (w32 (Int.tdiv (w32 ((w32 (p1 * (rd w 94 8))) + p2)) 16)) ∧ (w32 (Int.tdiv (w32 ((w32 (p1 * (rd w 94 8))) + p2)) 16)) < (n1 : Int) then (arN (M0 Ls) w (rd w 98 12) 101 101 101 none (fun a2 n2 => (if (0 : Int) ≤ (w32 (Int.tdiv (w32 ((w32 (p1 * (rd w 94 8))) + p2)) 16)) ∧ (w32 (Int.tdiv (w32 ((w32 (p1 * (rd w 94 8))) + p2)) 16)) < (n2 : Int) then some (none, wC w a2 (w32 (Int.tdiv (w32 ((w32 (p1 * (rd w 94 8))) + p2)) 16)) (i64 (fun x y => x ||| y) (i64 (fun x y => x &&& y) (rd w a1 (w32 (Int.tdiv (w32 ((w32 (p1 * (rd w 94 8))) + p2)) 16))) (i64 (fun x y => x ^^^ y) ((Int64.ofInt 15 <<< ((Int32.ofInt (w32 (4 * (Int.tmod (w32 ((w32 (p1 * (rd w 94 8))) + p2)) 16)))).toInt64 &&& 63)).toInt) (-1))) ((Int64.ofInt p3 <<< ((Int32.ofInt (w32 (4 * (Int.tmod (w32 ((w32 (p1 * (rd w 94 8))) + p2)) 16)))).toInt64 &&& 63)).toInt))) else none))) else none))) := by
  rw [Lm_unf P0 (M0 Ls) sp_166 41]
  rfl
