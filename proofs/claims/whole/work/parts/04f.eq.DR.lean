def sp_114 : Nat → Bool := fun q => [0, 27, 29, 43, 50, 56, 71, 78].contains q
set_option maxRecDepth 100000 in
theorem E_114_0 (Ls d : Nat) (p1 : Int) (w : AW) : Lm P0 (M0 Ls) d m_DR_read 0 [some (.inr (.inr 83)), some (.inl p1), none] [] w = Lk P0 (M0 Ls) d m_Tape_begin [.inr (.inr 55)] (wC (wC (wC (wC w 82 8 p1) 82 2 0) 82 6 0) 82 7 0) (fun r_ w_ => Lm P0 (M0 Ls) d m_DR_read 27 [some (.inr (.inr 83)), some (.inl p1), none] (r_.toList ++ []) w_) := by
  rw [Lm_unf P0 (M0 Ls) sp_114 16]
  rfl
set_option maxRecDepth 100000 in
theorem E_114_27 (Ls d : Nat) (x1 : Int) (w : AW) : Lm P0 (M0 Ls) d m_DR_read 27 [some (.inr (.inr 83)), some (.inl x1), none] [] w = Lm P0 (M0 Ls) d m_DR_read 29 [some (.inr (.inr 83)), some (.inl x1), some (.inl 0)] [] w := by
  rw [Lm_unf P0 (M0 Ls) sp_114 4]
  rfl
set_option maxRecDepth 100000 in
theorem E_114_29 (Ls d : Nat) (x1 x2 : Int) (w : AW) : Lm P0 (M0 Ls) d m_DR_read 29 [some (.inr (.inr 83)), some (.inl x1), some (.inl x2)] [] w = (if x2 < 1000 then Lk P0 (M0 Ls) d m_Tape_goesOn [.inr (.inr 55)] w (fun r_ w_ => Lm P0 (M0 Ls) d m_DR_read 43 [some (.inr (.inr 83)), some (.inl x1), some (.inl x2)] (r_.toList ++ []) w_) else Lm P0 (M0 Ls) d m_DR_read 56 [some (.inr (.inr 83)), some (.inl x1), some (.inl x2)] [] w) := by
  rw [Lm_unf P0 (M0 Ls) sp_114 7]
  rfl
set_option maxRecDepth 100000 in
theorem E_114_43 (Ls d : Nat) (x1 x2 y0 : Int) (w : AW) : Lm P0 (M0 Ls) d m_DR_read 43 [some (.inr (.inr 83)), some (.inl x1), some (.inl x2)] [.inl y0] w = (if y0 = 0 then Lm P0 (M0 Ls) d m_DR_read 56 [some (.inr (.inr 83)), some (.inl x1), some (.inl x2)] [] w else Lk P0 (M0 Ls) d m_DR_readToken [.inr (.inr 83)] w (fun r_ w_ => Lm P0 (M0 Ls) d m_DR_read 50 [some (.inr (.inr 83)), some (.inl x1), some (.inl x2)] (r_.toList ++ []) w_)) := by
  rw [Lm_unf P0 (M0 Ls) sp_114 4]
  rfl
set_option maxRecDepth 100000 in
theorem E_114_50 (Ls d : Nat) (x1 x2 : Int) (w : AW) : Lm P0 (M0 Ls) d m_DR_read 50 [some (.inr (.inr 83)), some (.inl x1), some (.inl x2)] [] w = Lm P0 (M0 Ls) d m_DR_read 29 [some (.inr (.inr 83)), some (.inl x1), some (.inl (w32 (x2 + 1)))] [] w := by
  rw [Lm_unf P0 (M0 Ls) sp_114 4]
  rfl
set_option maxRecDepth 100000 in
theorem E_114_56 (Ls d : Nat) (x1 x2 : Int) (w : AW) : Lm P0 (M0 Ls) d m_DR_read 56 [some (.inr (.inr 83)), some (.inl x1), some (.inl x2)] [] w = (if 0 < (rd w 82 6) then Lk P0 (M0 Ls) d m_Tape_wrong [.inr (.inr 55), .inl 1] w (fun r_ w_ => Lm P0 (M0 Ls) d m_DR_read 71 [some (.inr (.inr 83)), some (.inl x1), some (.inl x2)] (r_.toList ++ []) w_) else Lm P0 (M0 Ls) d m_DR_read 71 [some (.inr (.inr 83)), some (.inl x1), some (.inl x2)] [] w) := by
  rw [Lm_unf P0 (M0 Ls) sp_114 8]
  rfl
set_option maxRecDepth 100000 in
theorem E_114_71 (Ls d : Nat) (x1 x2 : Int) (w : AW) : Lm P0 (M0 Ls) d m_DR_read 71 [some (.inr (.inr 83)), some (.inl x1), some (.inl x2)] [] w = Lk P0 (M0 Ls) d m_Tape_finish [.inr (.inr 55)] w (fun r_ w_ => Lm P0 (M0 Ls) d m_DR_read 78 [some (.inr (.inr 83)), some (.inl x1), some (.inl x2)] (r_.toList ++ []) w_) := by
  rw [Lm_unf P0 (M0 Ls) sp_114 4]
  rfl
set_option maxRecDepth 100000 in
theorem E_114_78 (Ls d : Nat) (x1 x2 y0 : Int) (w : AW) : Lm P0 (M0 Ls) d m_DR_read 78 [some (.inr (.inr 83)), some (.inl x1), some (.inl x2)] [.inl y0] w = some (some (.inl y0), w) := by
  rw [Lm_unf P0 (M0 Ls) sp_114 2]
  rfl
def sp_115 : Nat → Bool := fun q => [0, 15, 27, 35, 47, 58, 70, 81, 93, 104, 116, 130, 133, 141].contains q
set_option maxRecDepth 100000 in
theorem E_115_0 (Ls d : Nat) (w : AW) : Lm P0 (M0 Ls) d m_DR_readToken 0 [some (.inr (.inr 83))] [] w = (if (rd w 54 3) = 2 then Lk P0 (M0 Ls) d m_DR_readNote [.inr (.inr 83)] w (fun r_ w_ => Lm P0 (M0 Ls) d m_DR_readToken 15 [some (.inr (.inr 83))] (r_.toList ++ []) w_) else Lk P0 (M0 Ls) d m_Tape_isWord [.inr (.inr 55), .inr (.inr 24)] w (fun r_ w_ => Lm P0 (M0 Ls) d m_DR_readToken 27 [some (.inr (.inr 83))] (r_.toList ++ []) w_)) := by
  rw [Lm_unf P0 (M0 Ls) sp_115 10]
  rfl
set_option maxRecDepth 100000 in
theorem E_115_15 (Ls d : Nat) (w : AW) : Lm P0 (M0 Ls) d m_DR_readToken 15 [some (.inr (.inr 83))] [] w = Lm P0 (M0 Ls) d m_DR_readToken 141 [some (.inr (.inr 83))] [] w := by
  rw [Lm_unf P0 (M0 Ls) sp_115 3]
  rfl
set_option maxRecDepth 100000 in
theorem E_115_27 (Ls d : Nat) (y0 : Int) (w : AW) : Lm P0 (M0 Ls) d m_DR_readToken 27 [some (.inr (.inr 83))] [.inl y0] w = (if y0 = 0 then Lk P0 (M0 Ls) d m_Tape_isWord [.inr (.inr 55), .inr (.inr 25)] w (fun r_ w_ => Lm P0 (M0 Ls) d m_DR_readToken 47 [some (.inr (.inr 83))] (r_.toList ++ []) w_) else Lk P0 (M0 Ls) d m_DR_addBeat [.inr (.inr 83), .inl (-1)] w (fun r_ w_ => Lm P0 (M0 Ls) d m_DR_readToken 35 [some (.inr (.inr 83))] (r_.toList ++ []) w_)) := by
  rw [Lm_unf P0 (M0 Ls) sp_115 6]
  rfl
set_option maxRecDepth 100000 in
theorem E_115_35 (Ls d : Nat) (w : AW) : Lm P0 (M0 Ls) d m_DR_readToken 35 [some (.inr (.inr 83))] [] w = Lm P0 (M0 Ls) d m_DR_readToken 141 [some (.inr (.inr 83))] [] w := by
  rw [Lm_unf P0 (M0 Ls) sp_115 3]
  rfl
set_option maxRecDepth 100000 in
theorem E_115_47 (Ls d : Nat) (y0 : Int) (w : AW) : Lm P0 (M0 Ls) d m_DR_readToken 47 [some (.inr (.inr 83))] [.inl y0] w = (if y0 = 0 then Lk P0 (M0 Ls) d m_Tape_isWord [.inr (.inr 55), .inr (.inr 26)] w (fun r_ w_ => Lm P0 (M0 Ls) d m_DR_readToken 70 [some (.inr (.inr 83))] (r_.toList ++ []) w_) else Lk P0 (M0 Ls) d m_DR_readGroup [.inr (.inr 83), .inl 1, .inl 99, .inl 0] w (fun r_ w_ => Lm P0 (M0 Ls) d m_DR_readToken 58 [some (.inr (.inr 83))] (r_.toList ++ []) w_)) := by
  rw [Lm_unf P0 (M0 Ls) sp_115 7]
  rfl
set_option maxRecDepth 100000 in
theorem E_115_58 (Ls d : Nat) (w : AW) : Lm P0 (M0 Ls) d m_DR_readToken 58 [some (.inr (.inr 83))] [] w = Lm P0 (M0 Ls) d m_DR_readToken 141 [some (.inr (.inr 83))] [] w := by
  rw [Lm_unf P0 (M0 Ls) sp_115 3]
  rfl
set_option maxRecDepth 100000 in
theorem E_115_70 (Ls d : Nat) (y0 : Int) (w : AW) : Lm P0 (M0 Ls) d m_DR_readToken 70 [some (.inr (.inr 83))] [.inl y0] w = (if y0 = 0 then Lk P0 (M0 Ls) d m_Tape_isWord [.inr (.inr 55), .inr (.inr 27)] w (fun r_ w_ => Lm P0 (M0 Ls) d m_DR_readToken 93 [some (.inr (.inr 83))] (r_.toList ++ []) w_) else Lk P0 (M0 Ls) d m_DR_readGroup [.inr (.inr 83), .inl 0, .inl 24, .inl 1] w (fun r_ w_ => Lm P0 (M0 Ls) d m_DR_readToken 81 [some (.inr (.inr 83))] (r_.toList ++ []) w_)) := by
  rw [Lm_unf P0 (M0 Ls) sp_115 7]
  rfl
set_option maxRecDepth 100000 in
theorem E_115_81 (Ls d : Nat) (w : AW) : Lm P0 (M0 Ls) d m_DR_readToken 81 [some (.inr (.inr 83))] [] w = Lm P0 (M0 Ls) d m_DR_readToken 141 [some (.inr (.inr 83))] [] w := by
  rw [Lm_unf P0 (M0 Ls) sp_115 3]
  rfl
set_option maxRecDepth 100000 in
theorem E_115_93 (Ls d : Nat) (y0 : Int) (w : AW) : Lm P0 (M0 Ls) d m_DR_readToken 93 [some (.inr (.inr 83))] [.inl y0] w = (if y0 = 0 then Lk P0 (M0 Ls) d m_Tape_isSign [.inr (.inr 55), .inl 41] w (fun r_ w_ => Lm P0 (M0 Ls) d m_DR_readToken 116 [some (.inr (.inr 83))] (r_.toList ++ []) w_) else Lk P0 (M0 Ls) d m_DR_readGroup [.inr (.inr 83), .inl 0, .inl 24, .inl (-1)] w (fun r_ w_ => Lm P0 (M0 Ls) d m_DR_readToken 104 [some (.inr (.inr 83))] (r_.toList ++ []) w_)) := by
  rw [Lm_unf P0 (M0 Ls) sp_115 7]
  rfl
set_option maxRecDepth 100000 in
theorem E_115_104 (Ls d : Nat) (w : AW) : Lm P0 (M0 Ls) d m_DR_readToken 104 [some (.inr (.inr 83))] [] w = Lm P0 (M0 Ls) d m_DR_readToken 141 [some (.inr (.inr 83))] [] w := by
  rw [Lm_unf P0 (M0 Ls) sp_115 3]
  rfl
set_option maxRecDepth 100000 in
theorem E_115_116 (Ls d : Nat) (y0 : Int) (w : AW) : Lm P0 (M0 Ls) d m_DR_readToken 116 [some (.inr (.inr 83))] [.inl y0] w = (if y0 = 0 then Lm P0 (M0 Ls) d m_DR_readToken 133 [some (.inr (.inr 83))] [] w else (if 0 < (rd w 82 6) then Lk P0 (M0 Ls) d m_DR_closeGroup [.inr (.inr 83)] w (fun r_ w_ => Lm P0 (M0 Ls) d m_DR_readToken 130 [some (.inr (.inr 83))] (r_.toList ++ []) w_) else Lm P0 (M0 Ls) d m_DR_readToken 133 [some (.inr (.inr 83))] [] w)) := by
  rw [Lm_unf P0 (M0 Ls) sp_115 7]
  rfl
set_option maxRecDepth 100000 in
theorem E_115_130 (Ls d : Nat) (w : AW) : Lm P0 (M0 Ls) d m_DR_readToken 130 [some (.inr (.inr 83))] [] w = Lm P0 (M0 Ls) d m_DR_readToken 141 [some (.inr (.inr 83))] [] w := by
  rw [Lm_unf P0 (M0 Ls) sp_115 3]
  rfl
set_option maxRecDepth 100000 in
theorem E_115_133 (Ls d : Nat) (w : AW) : Lm P0 (M0 Ls) d m_DR_readToken 133 [some (.inr (.inr 83))] [] w = Lk P0 (M0 Ls) d m_Tape_wrong [.inr (.inr 55), .inl 1] w (fun r_ w_ => Lm P0 (M0 Ls) d m_DR_readToken 141 [some (.inr (.inr 83))] (r_.toList ++ []) w_) := by
  rw [Lm_unf P0 (M0 Ls) sp_115 5]
  rfl
set_option maxRecDepth 100000 in
theorem E_115_141 (Ls d : Nat) (w : AW) : Lm P0 (M0 Ls) d m_DR_readToken 141 [some (.inr (.inr 83))] [] w = some (none, w) := by
  rw [Lm_unf P0 (M0 Ls) sp_115 2]
  rfl
def sp_116 : Nat → Bool := fun q => [0, 25, 33, 41].contains q
set_option maxRecDepth 100000 in
theorem E_116_0 (Ls d : Nat) (w : AW) : Lm P0 (M0 Ls) d m_DR_readNote 0 [some (.inr (.inr 83)), none] [] w = (if (w32 ((rd w 54 4) + (rd w 82 7))) < 0 then Lm P0 (M0 Ls) d m_DR_readNote 25 [some (.inr (.inr 83)), some (.inl (w32 ((rd w 54 4) + (rd w 82 7))))] [] w else (if (w32 ((rd w 54 4) + (rd w 82 7))) < (rd w 82 8) then Lk P0 (M0 Ls) d m_DR_addBeat [.inr (.inr 83), .inl (w32 ((rd w 54 4) + (rd w 82 7)))] w (fun r_ w_ => Lm P0 (M0 Ls) d m_DR_readNote 41 [some (.inr (.inr 83)), some (.inl (w32 ((rd w 54 4) + (rd w 82 7))))] (r_.toList ++ []) w_) else Lm P0 (M0 Ls) d m_DR_readNote 25 [some (.inr (.inr 83)), some (.inl (w32 ((rd w 54 4) + (rd w 82 7))))] [] w)) := by
  rw [Lm_unf P0 (M0 Ls) sp_116 17]
  rfl
set_option maxRecDepth 100000 in
theorem E_116_25 (Ls d : Nat) (x1 : Int) (w : AW) : Lm P0 (M0 Ls) d m_DR_readNote 25 [some (.inr (.inr 83)), some (.inl x1)] [] w = Lk P0 (M0 Ls) d m_Tape_wrong [.inr (.inr 55), .inl 4] w (fun r_ w_ => Lm P0 (M0 Ls) d m_DR_readNote 33 [some (.inr (.inr 83)), some (.inl x1)] (r_.toList ++ []) w_) := by
  rw [Lm_unf P0 (M0 Ls) sp_116 5]
  rfl
set_option maxRecDepth 100000 in
theorem E_116_33 (Ls d : Nat) (x1 : Int) (w : AW) : Lm P0 (M0 Ls) d m_DR_readNote 33 [some (.inr (.inr 83)), some (.inl x1)] [] w = Lm P0 (M0 Ls) d m_DR_readNote 41 [some (.inr (.inr 83)), some (.inl x1)] [] w := by
  rw [Lm_unf P0 (M0 Ls) sp_116 3]
  rfl
set_option maxRecDepth 100000 in
theorem E_116_41 (Ls d : Nat) (x1 : Int) (w : AW) : Lm P0 (M0 Ls) d m_DR_readNote 41 [some (.inr (.inr 83)), some (.inl x1)] [] w = some (none, w) := by
  rw [Lm_unf P0 (M0 Ls) sp_116 2]
  rfl
def sp_117 : Nat → Bool := fun q => [0, 18, 26, 54].contains q
set_option maxRecDepth 100000 in
theorem E_117_0 (Ls d : Nat) (p1 : Int) (w : AW) : Lm P0 (M0 Ls) d m_DR_addBeat 0 [some (.inr (.inr 83)), some (.inl p1)] [] w = (if (rd w 82 6) < 5 then (if (rd w 82 2) < 200 then (if 0 ≤ (rd w 82 2) ∧ (rd w 82 2) < 200 then Lk P0 (M0 Ls) d m_Tape_advance [.inr (.inr 55)] (wC (wC w 83 (rd w 82 2) p1) 82 2 (w32 ((rd (wC w 83 (rd w 82 2) p1) 82 2) + 1))) (fun r_ w_ => Lm P0 (M0 Ls) d m_DR_addBeat 54 [some (.inr (.inr 83)), some (.inl p1)] (r_.toList ++ []) w_) else none) else Lm P0 (M0 Ls) d m_DR_addBeat 18 [some (.inr (.inr 83)), some (.inl p1)] [] w) else Lm P0 (M0 Ls) d m_DR_addBeat 18 [some (.inr (.inr 83)), some (.inl p1)] [] w) := by
  rw [Lm_unf P0 (M0 Ls) sp_117 24]
  rfl
set_option maxRecDepth 100000 in
theorem E_117_18 (Ls d : Nat) (x1 : Int) (w : AW) : Lm P0 (M0 Ls) d m_DR_addBeat 18 [some (.inr (.inr 83)), some (.inl x1)] [] w = Lk P0 (M0 Ls) d m_Tape_wrong [.inr (.inr 55), .inl 5] w (fun r_ w_ => Lm P0 (M0 Ls) d m_DR_addBeat 26 [some (.inr (.inr 83)), some (.inl x1)] (r_.toList ++ []) w_) := by
  rw [Lm_unf P0 (M0 Ls) sp_117 5]
  rfl
set_option maxRecDepth 100000 in
theorem E_117_26 (Ls d : Nat) (x1 : Int) (w : AW) : Lm P0 (M0 Ls) d m_DR_addBeat 26 [some (.inr (.inr 83)), some (.inl x1)] [] w = some (none, w) := by
  rw [Lm_unf P0 (M0 Ls) sp_117 2]
  rfl
set_option maxRecDepth 100000 in
theorem E_117_54 (Ls d : Nat) (x1 : Int) (w : AW) : Lm P0 (M0 Ls) d m_DR_addBeat 54 [some (.inr (.inr 83)), some (.inl x1)] [] w = some (none, w) := by
  rw [Lm_unf P0 (M0 Ls) sp_117 2]
  rfl
def sp_118 : Nat → Bool := fun q => [0, 16, 24, 33, 44, 62].contains q
set_option maxRecDepth 100000 in
theorem E_118_0 (Ls d : Nat) (p1 p2 p3 : Int) (w : AW) : Lm P0 (M0 Ls) d m_DR_readGroup 0 [some (.inr (.inr 83)), some (.inl p1), some (.inl p2), some (.inl p3), none] [] w = (if (rd w 82 6) < 5 then Lk P0 (M0 Ls) d m_Tape_advance [.inr (.inr 55)] w (fun r_ w_ => Lm P0 (M0 Ls) d m_DR_readGroup 24 [some (.inr (.inr 83)), some (.inl p1), some (.inl p2), some (.inl p3), none] (r_.toList ++ []) w_) else Lk P0 (M0 Ls) d m_Tape_wrong [.inr (.inr 55), .inl 5] w (fun r_ w_ => Lm P0 (M0 Ls) d m_DR_readGroup 16 [some (.inr (.inr 83)), some (.inl p1), some (.inl p2), some (.inl p3), none] (r_.toList ++ []) w_)) := by
  rw [Lm_unf P0 (M0 Ls) sp_118 9]
  rfl
set_option maxRecDepth 100000 in
theorem E_118_16 (Ls d : Nat) (x1 x2 x3 : Int) (w : AW) : Lm P0 (M0 Ls) d m_DR_readGroup 16 [some (.inr (.inr 83)), some (.inl x1), some (.inl x2), some (.inl x3), none] [] w = some (none, w) := by
  rw [Lm_unf P0 (M0 Ls) sp_118 2]
  rfl
set_option maxRecDepth 100000 in
theorem E_118_24 (Ls d : Nat) (x1 x2 x3 : Int) (w : AW) : Lm P0 (M0 Ls) d m_DR_readGroup 24 [some (.inr (.inr 83)), some (.inl x1), some (.inl x2), some (.inl x3), none] [] w = Lk P0 (M0 Ls) d m_Tape_needNumber [.inr (.inr 55), .inl x1, .inl x2] w (fun r_ w_ => Lm P0 (M0 Ls) d m_DR_readGroup 33 [some (.inr (.inr 83)), some (.inl x1), some (.inl x2), some (.inl x3), none] (r_.toList ++ []) w_) := by
  rw [Lm_unf P0 (M0 Ls) sp_118 6]
  rfl
set_option maxRecDepth 100000 in
theorem E_118_33 (Ls d : Nat) (x1 x2 x3 y0 : Int) (w : AW) : Lm P0 (M0 Ls) d m_DR_readGroup 33 [some (.inr (.inr 83)), some (.inl x1), some (.inl x2), some (.inl x3), none] [.inl y0] w = Lk P0 (M0 Ls) d m_Tape_needSign [.inr (.inr 55), .inl 40] w (fun r_ w_ => Lm P0 (M0 Ls) d m_DR_readGroup 44 [some (.inr (.inr 83)), some (.inl x1), some (.inl x2), some (.inl x3), some (.inl y0)] (r_.toList ++ []) w_) := by
  rw [Lm_unf P0 (M0 Ls) sp_118 6]
  rfl
set_option maxRecDepth 100000 in
theorem E_118_44 (Ls d : Nat) (x1 x2 x3 x4 : Int) (w : AW) : Lm P0 (M0 Ls) d m_DR_readGroup 44 [some (.inr (.inr 83)), some (.inl x1), some (.inl x2), some (.inl x3), some (.inl x4)] [] w = (if x3 = 0 then Lm P0 (M0 Ls) d m_DR_readGroup 62 [some (.inr (.inr 83)), some (.inl x1), some (.inl x2), some (.inl x3), some (.inl x4)] [.inl x4, .inl (rd w 82 6), .inr (.inr 85)] w else Lm P0 (M0 Ls) d m_DR_readGroup 62 [some (.inr (.inr 83)), some (.inl x1), some (.inl x2), some (.inl x3), some (.inl x4)] [.inl 1, .inl (rd w 82 6), .inr (.inr 85)] w) := by
  rw [Lm_unf P0 (M0 Ls) sp_118 10]
  rfl
set_option maxRecDepth 100000 in
theorem E_118_62 (Ls d : Nat) (x1 x2 x3 x4 y0 y1 : Int) (w : AW) : Lm P0 (M0 Ls) d m_DR_readGroup 62 [some (.inr (.inr 83)), some (.inl x1), some (.inl x2), some (.inl x3), some (.inl x4)] [.inl y0, .inl y1, .inr (.inr 85)] w = (if 0 ≤ y1 ∧ y1 < 5 then (if 0 ≤ (rd (wC w 84 y1 y0) 82 6) ∧ (rd (wC w 84 y1 y0) 82 6) < 5 then (if 0 ≤ (rd (wC (wC w 84 y1 y0) 85 (rd (wC w 84 y1 y0) 82 6) (rd (wC w 84 y1 y0) 82 2)) 82 6) ∧ (rd (wC (wC w 84 y1 y0) 85 (rd (wC w 84 y1 y0) 82 6) (rd (wC w 84 y1 y0) 82 2)) 82 6) < 5 then (if 0 ≤ (rd (wC (wC (wC w 84 y1 y0) 85 (rd (wC w 84 y1 y0) 82 6) (rd (wC w 84 y1 y0) 82 2)) 86 (rd (wC (wC w 84 y1 y0) 85 (rd (wC w 84 y1 y0) 82 6) (rd (wC w 84 y1 y0) 82 2)) 82 6) (w32 (x3 * x4))) 82 6) ∧ (rd (wC (wC (wC w 84 y1 y0) 85 (rd (wC w 84 y1 y0) 82 6) (rd (wC w 84 y1 y0) 82 2)) 86 (rd (wC (wC w 84 y1 y0) 85 (rd (wC w 84 y1 y0) 82 6) (rd (wC w 84 y1 y0) 82 2)) 82 6) (w32 (x3 * x4))) 82 6) < 5 then some (none, wC (wC (wC (wC (wC w 84 y1 y0) 85 (rd (wC w 84 y1 y0) 82 6) (rd (wC w 84 y1 y0) 82 2)) 86 (rd (wC (wC w 84 y1 y0) 85 (rd (wC w 84 y1 y0) 82 6) (rd (wC w 84 y1 y0) 82 2)) 82 6) (w32 (x3 * x4))) 82 7 (w32 ((rd (wC (wC (wC w 84 y1 y0) 85 (rd (wC w 84 y1 y0) 82 6) (rd (wC w 84 y1 y0) 82 2)) 86 (rd (wC (wC w 84 y1 y0) 85 (rd (wC w 84 y1 y0) 82 6) (rd (wC w 84 y1 y0) 82 2)) 82 6) (w32 (x3 * x4))) 82 7) + (rd (wC (wC (wC w 84 y1 y0) 85 (rd (wC w 84 y1 y0) 82 6) (rd (wC w 84 y1 y0) 82 2)) 86 (rd (wC (wC w 84 y1 y0) 85 (rd (wC w 84 y1 y0) 82 6) (rd (wC w 84 y1 y0) 82 2)) 82 6) (w32 (x3 * x4))) 86 (rd (wC (wC (wC w 84 y1 y0) 85 (rd (wC w 84 y1 y0) 82 6) (rd (wC w 84 y1 y0) 82 2)) 86 (rd (wC (wC w 84 y1 y0) 85 (rd (wC w 84 y1 y0) 82 6) (rd (wC w 84 y1 y0) 82 2)) 82 6) (w32 (x3 * x4))) 82 6))))) 82 6 (w32 ((rd (wC (wC (wC (wC w 84 y1 y0) 85 (rd (wC w 84 y1 y0) 82 6) (rd (wC w 84 y1 y0) 82 2)) 86 (rd (wC (wC w 84 y1 y0) 85 (rd (wC w 84 y1 y0) 82 6) (rd (wC w 84 y1 y0) 82 2)) 82 6) (w32 (x3 * x4))) 82 7 (w32 ((rd (wC (wC (wC w 84 y1 y0) 85 (rd (wC w 84 y1 y0) 82 6) (rd (wC w 84 y1 y0) 82 2)) 86 (rd (wC (wC w 84 y1 y0) 85 (rd (wC w 84 y1 y0) 82 6) (rd (wC w 84 y1 y0) 82 2)) 82 6) (w32 (x3 * x4))) 82 7) + (rd (wC (wC (wC w 84 y1 y0) 85 (rd (wC w 84 y1 y0) 82 6) (rd (wC w 84 y1 y0) 82 2)) 86 (rd (wC (wC w 84 y1 y0) 85 (rd (wC w 84 y1 y0) 82 6) (rd (wC w 84 y1 y0) 82 2)) 82 6) (w32 (x3 * x4))) 86 (rd (wC (wC (wC w 84 y1 y0) 85 (rd (wC w 84 y1 y0) 82 6) (rd (wC w 84 y1 y0) 82 2)) 86 (rd (wC (wC w 84 y1 y0) 85 (rd (wC w 84 y1 y0) 82 6) (rd (wC w 84 y1 y0) 82 2)) 82 6) (w32 (x3 * x4))) 82 6))))) 82 6) + 1))) else none) else none) else none) else none) := by
  rw [Lm_unf P0 (M0 Ls) sp_118 34]
  rfl
def sp_119 : Nat → Bool := fun q => [0, 50, 57, 127].contains q
set_option maxRecDepth 100000 in
theorem E_119_0 (Ls d : Nat) (w : AW) : Lm P0 (M0 Ls) d m_DR_closeGroup 0 [some (.inr (.inr 83)), none, none, none, none] [] w = (if 0 ≤ (w32 ((rd w 82 6) - 1)) ∧ (w32 ((rd w 82 6) - 1)) < 5 then (if 0 ≤ (w32 ((rd w 82 6) - 1)) ∧ (w32 ((rd w 82 6) - 1)) < 5 then (if 200 < (w32 ((rd w 85 (w32 ((rd w 82 6) - 1))) + (w32 ((rd w 84 (w32 ((rd w 82 6) - 1))) * (w32 ((rd w 82 2) - (rd w 85 (w32 ((rd w 82 6) - 1))))))))) then Lk P0 (M0 Ls) d m_Tape_wrong [.inr (.inr 55), .inl 5] w (fun r_ w_ => Lm P0 (M0 Ls) d m_DR_closeGroup 50 [some (.inr (.inr 83)), some (.inl (rd w 85 (w32 ((rd w 82 6) - 1)))), some (.inl (w32 ((rd w 82 2) - (rd w 85 (w32 ((rd w 82 6) - 1)))))), some (.inl (w32 ((rd w 85 (w32 ((rd w 82 6) - 1))) + (w32 ((rd w 84 (w32 ((rd w 82 6) - 1))) * (w32 ((rd w 82 2) - (rd w 85 (w32 ((rd w 82 6) - 1)))))))))), none] (r_.toList ++ []) w_) else Lm P0 (M0 Ls) d m_DR_closeGroup 57 [some (.inr (.inr 83)), some (.inl (rd w 85 (w32 ((rd w 82 6) - 1)))), some (.inl (w32 ((rd w 82 2) - (rd w 85 (w32 ((rd w 82 6) - 1)))))), some (.inl (w32 ((rd w 85 (w32 ((rd w 82 6) - 1))) + (w32 ((rd w 84 (w32 ((rd w 82 6) - 1))) * (w32 ((rd w 82 2) - (rd w 85 (w32 ((rd w 82 6) - 1)))))))))), some (.inl (rd w 82 2))] [] w) else none) else none) := by
  rw [Lm_unf P0 (M0 Ls) sp_119 33]
  rfl
set_option maxRecDepth 100000 in
theorem E_119_50 (Ls d : Nat) (x1 x2 x3 : Int) (w : AW) : Lm P0 (M0 Ls) d m_DR_closeGroup 50 [some (.inr (.inr 83)), some (.inl x1), some (.inl x2), some (.inl x3), none] [] w = some (none, w) := by
  rw [Lm_unf P0 (M0 Ls) sp_119 2]
  rfl
set_option maxRecDepth 100000 in
theorem E_119_57 (Ls d : Nat) (x1 x2 x3 x4 : Int) (w : AW) : Lm P0 (M0 Ls) d m_DR_closeGroup 57 [some (.inr (.inr 83)), some (.inl x1), some (.inl x2), some (.inl x3), some (.inl x4)] [] w = (if x4 < x3 then (if 0 ≤ (w32 (x4 - x2)) ∧ (w32 (x4 - x2)) < 200 then (if 0 ≤ x4 ∧ x4 < 200 then Lm P0 (M0 Ls) d m_DR_closeGroup 57 [some (.inr (.inr 83)), some (.inl x1), some (.inl x2), some (.inl x3), some (.inl (w32 (x4 + 1)))] [] (wC w 83 x4 (rd w 83 (w32 (x4 - x2)))) else none) else none) else (if 0 ≤ (w32 ((rd (wC w 82 2 x3) 82 6) - 1)) ∧ (w32 ((rd (wC w 82 2 x3) 82 6) - 1)) < 5 then Lk P0 (M0 Ls) d m_Tape_advance [.inr (.inr 55)] (wC (wC (wC w 82 2 x3) 82 7 (w32 ((rd (wC w 82 2 x3) 82 7) - (rd (wC w 82 2 x3) 86 (w32 ((rd (wC w 82 2 x3) 82 6) - 1)))))) 82 6 (w32 ((rd (wC (wC w 82 2 x3) 82 7 (w32 ((rd (wC w 82 2 x3) 82 7) - (rd (wC w 82 2 x3) 86 (w32 ((rd (wC w 82 2 x3) 82 6) - 1)))))) 82 6) - 1))) (fun r_ w_ => Lm P0 (M0 Ls) d m_DR_closeGroup 127 [some (.inr (.inr 83)), some (.inl x1), some (.inl x2), some (.inl x3), some (.inl x4)] (r_.toList ++ []) w_) else none)) := by
  rw [Lm_unf P0 (M0 Ls) sp_119 28]
  rfl
set_option maxRecDepth 100000 in
theorem E_119_127 (Ls d : Nat) (x1 x2 x3 x4 : Int) (w : AW) : Lm P0 (M0 Ls) d m_DR_closeGroup 127 [some (.inr (.inr 83)), some (.inl x1), some (.inl x2), some (.inl x3), some (.inl x4)] [] w = some (none, w) := by
  rw [Lm_unf P0 (M0 Ls) sp_119 2]
  rfl
