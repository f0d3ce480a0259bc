def sp_96 : Nat → Bool := fun q => [0, 7, 24, 26, 40, 47, 56, 62, 69].contains q
set_option maxRecDepth 100000 in
theorem E_96_0 (Ls d : Nat) (w : AW) : Lm P0 (M0 Ls) d m_RR_read 0 [some (.inr (.inr 71)), none] [] w = Lk P0 (M0 Ls) d m_Rock_reset [.inr (.inr 72)] w (fun r_ w_ => Lm P0 (M0 Ls) d m_RR_read 7 [some (.inr (.inr 71)), none] (r_.toList ++ []) w_) := by
  rw [Lm_unf P0 (M0 Ls) sp_96 4]
  rfl
set_option maxRecDepth 100000 in
theorem E_96_7 (Ls d : Nat) (w : AW) : Lm P0 (M0 Ls) d m_RR_read 7 [some (.inr (.inr 71)), none] [] w = Lk P0 (M0 Ls) d m_Tape_begin [.inr (.inr 55)] (wC (wC w 70 2 0) 70 3 0) (fun r_ w_ => Lm P0 (M0 Ls) d m_RR_read 24 [some (.inr (.inr 71)), none] (r_.toList ++ []) w_) := by
  rw [Lm_unf P0 (M0 Ls) sp_96 10]
  rfl
set_option maxRecDepth 100000 in
theorem E_96_24 (Ls d : Nat) (w : AW) : Lm P0 (M0 Ls) d m_RR_read 24 [some (.inr (.inr 71)), none] [] w = Lm P0 (M0 Ls) d m_RR_read 26 [some (.inr (.inr 71)), some (.inl 0)] [] w := by
  rw [Lm_unf P0 (M0 Ls) sp_96 4]
  rfl
set_option maxRecDepth 100000 in
theorem E_96_26 (Ls d : Nat) (x1 : Int) (w : AW) : Lm P0 (M0 Ls) d m_RR_read 26 [some (.inr (.inr 71)), some (.inl x1)] [] w = (if x1 < 1000 then Lk P0 (M0 Ls) d m_Tape_goesOn [.inr (.inr 55)] w (fun r_ w_ => Lm P0 (M0 Ls) d m_RR_read 40 [some (.inr (.inr 71)), some (.inl x1)] (r_.toList ++ []) w_) else Lm P0 (M0 Ls) d m_RR_read 62 [some (.inr (.inr 71)), some (.inl x1)] [] w) := by
  rw [Lm_unf P0 (M0 Ls) sp_96 7]
  rfl
set_option maxRecDepth 100000 in
theorem E_96_40 (Ls d : Nat) (x1 y0 : Int) (w : AW) : Lm P0 (M0 Ls) d m_RR_read 40 [some (.inr (.inr 71)), some (.inl x1)] [.inl y0] w = (if y0 = 0 then Lm P0 (M0 Ls) d m_RR_read 62 [some (.inr (.inr 71)), some (.inl x1)] [] w else Lk P0 (M0 Ls) d m_RR_readLine [.inr (.inr 71)] w (fun r_ w_ => Lm P0 (M0 Ls) d m_RR_read 47 [some (.inr (.inr 71)), some (.inl x1)] (r_.toList ++ []) w_)) := by
  rw [Lm_unf P0 (M0 Ls) sp_96 4]
  rfl
set_option maxRecDepth 100000 in
theorem E_96_47 (Ls d : Nat) (x1 : Int) (w : AW) : Lm P0 (M0 Ls) d m_RR_read 47 [some (.inr (.inr 71)), some (.inl x1)] [] w = Lk P0 (M0 Ls) d m_Tape_needSign [.inr (.inr 55), .inl 59] w (fun r_ w_ => Lm P0 (M0 Ls) d m_RR_read 56 [some (.inr (.inr 71)), some (.inl x1)] (r_.toList ++ []) w_) := by
  rw [Lm_unf P0 (M0 Ls) sp_96 5]
  rfl
set_option maxRecDepth 100000 in
theorem E_96_56 (Ls d : Nat) (x1 : Int) (w : AW) : Lm P0 (M0 Ls) d m_RR_read 56 [some (.inr (.inr 71)), some (.inl x1)] [] w = Lm P0 (M0 Ls) d m_RR_read 26 [some (.inr (.inr 71)), some (.inl (w32 (x1 + 1)))] [] w := by
  rw [Lm_unf P0 (M0 Ls) sp_96 4]
  rfl
set_option maxRecDepth 100000 in
theorem E_96_62 (Ls d : Nat) (x1 : Int) (w : AW) : Lm P0 (M0 Ls) d m_RR_read 62 [some (.inr (.inr 71)), some (.inl x1)] [] w = Lk P0 (M0 Ls) d m_Tape_finish [.inr (.inr 55)] w (fun r_ w_ => Lm P0 (M0 Ls) d m_RR_read 69 [some (.inr (.inr 71)), some (.inl x1)] (r_.toList ++ []) w_) := by
  rw [Lm_unf P0 (M0 Ls) sp_96 4]
  rfl
set_option maxRecDepth 100000 in
theorem E_96_69 (Ls d : Nat) (x1 y0 : Int) (w : AW) : Lm P0 (M0 Ls) d m_RR_read 69 [some (.inr (.inr 71)), some (.inl x1)] [.inl y0] w = some (some (.inl y0), w) := by
  rw [Lm_unf P0 (M0 Ls) sp_96 2]
  rfl
def sp_97 : Nat → Bool := fun q => [0, 9, 16, 28, 35, 47, 54, 66, 74, 86, 94, 106, 114, 125].contains q
set_option maxRecDepth 100000 in
theorem E_97_0 (Ls d : Nat) (w : AW) : Lm P0 (M0 Ls) d m_RR_readLine 0 [some (.inr (.inr 71))] [] w = Lk P0 (M0 Ls) d m_Tape_isWord [.inr (.inr 55), .inr (.inr 3)] w (fun r_ w_ => Lm P0 (M0 Ls) d m_RR_readLine 9 [some (.inr (.inr 71))] (r_.toList ++ []) w_) := by
  rw [Lm_unf P0 (M0 Ls) sp_97 5]
  rfl
set_option maxRecDepth 100000 in
theorem E_97_9 (Ls d : Nat) (y0 : Int) (w : AW) : Lm P0 (M0 Ls) d m_RR_readLine 9 [some (.inr (.inr 71))] [.inl y0] w = (if y0 = 0 then Lk P0 (M0 Ls) d m_Tape_isWord [.inr (.inr 55), .inr (.inr 4)] w (fun r_ w_ => Lm P0 (M0 Ls) d m_RR_readLine 28 [some (.inr (.inr 71))] (r_.toList ++ []) w_) else Lk P0 (M0 Ls) d m_RR_readNotes [.inr (.inr 71)] w (fun r_ w_ => Lm P0 (M0 Ls) d m_RR_readLine 16 [some (.inr (.inr 71))] (r_.toList ++ []) w_)) := by
  rw [Lm_unf P0 (M0 Ls) sp_97 6]
  rfl
set_option maxRecDepth 100000 in
theorem E_97_16 (Ls d : Nat) (w : AW) : Lm P0 (M0 Ls) d m_RR_readLine 16 [some (.inr (.inr 71))] [] w = Lm P0 (M0 Ls) d m_RR_readLine 125 [some (.inr (.inr 71))] [] w := by
  rw [Lm_unf P0 (M0 Ls) sp_97 3]
  rfl
set_option maxRecDepth 100000 in
theorem E_97_28 (Ls d : Nat) (y0 : Int) (w : AW) : Lm P0 (M0 Ls) d m_RR_readLine 28 [some (.inr (.inr 71))] [.inl y0] w = (if y0 = 0 then Lk P0 (M0 Ls) d m_Tape_isWord [.inr (.inr 55), .inr (.inr 5)] w (fun r_ w_ => Lm P0 (M0 Ls) d m_RR_readLine 47 [some (.inr (.inr 71))] (r_.toList ++ []) w_) else Lk P0 (M0 Ls) d m_RR_readMeter [.inr (.inr 71)] w (fun r_ w_ => Lm P0 (M0 Ls) d m_RR_readLine 35 [some (.inr (.inr 71))] (r_.toList ++ []) w_)) := by
  rw [Lm_unf P0 (M0 Ls) sp_97 6]
  rfl
set_option maxRecDepth 100000 in
theorem E_97_35 (Ls d : Nat) (w : AW) : Lm P0 (M0 Ls) d m_RR_readLine 35 [some (.inr (.inr 71))] [] w = Lm P0 (M0 Ls) d m_RR_readLine 125 [some (.inr (.inr 71))] [] w := by
  rw [Lm_unf P0 (M0 Ls) sp_97 3]
  rfl
set_option maxRecDepth 100000 in
theorem E_97_47 (Ls d : Nat) (y0 : Int) (w : AW) : Lm P0 (M0 Ls) d m_RR_readLine 47 [some (.inr (.inr 71))] [.inl y0] w = (if y0 = 0 then Lk P0 (M0 Ls) d m_Tape_isWord [.inr (.inr 55), .inr (.inr 13)] w (fun r_ w_ => Lm P0 (M0 Ls) d m_RR_readLine 66 [some (.inr (.inr 71))] (r_.toList ++ []) w_) else Lk P0 (M0 Ls) d m_RR_readEcho [.inr (.inr 71)] w (fun r_ w_ => Lm P0 (M0 Ls) d m_RR_readLine 54 [some (.inr (.inr 71))] (r_.toList ++ []) w_)) := by
  rw [Lm_unf P0 (M0 Ls) sp_97 6]
  rfl
set_option maxRecDepth 100000 in
theorem E_97_54 (Ls d : Nat) (w : AW) : Lm P0 (M0 Ls) d m_RR_readLine 54 [some (.inr (.inr 71))] [] w = Lm P0 (M0 Ls) d m_RR_readLine 125 [some (.inr (.inr 71))] [] w := by
  rw [Lm_unf P0 (M0 Ls) sp_97 3]
  rfl
set_option maxRecDepth 100000 in
theorem E_97_66 (Ls d : Nat) (y0 : Int) (w : AW) : Lm P0 (M0 Ls) d m_RR_readLine 66 [some (.inr (.inr 71))] [.inl y0] w = (if y0 = 0 then Lk P0 (M0 Ls) d m_Tape_isWord [.inr (.inr 55), .inr (.inr 22)] w (fun r_ w_ => Lm P0 (M0 Ls) d m_RR_readLine 86 [some (.inr (.inr 71))] (r_.toList ++ []) w_) else Lk P0 (M0 Ls) d m_RR_readLaw [.inr (.inr 71), .inl 0] w (fun r_ w_ => Lm P0 (M0 Ls) d m_RR_readLine 74 [some (.inr (.inr 71))] (r_.toList ++ []) w_)) := by
  rw [Lm_unf P0 (M0 Ls) sp_97 6]
  rfl
set_option maxRecDepth 100000 in
theorem E_97_74 (Ls d : Nat) (w : AW) : Lm P0 (M0 Ls) d m_RR_readLine 74 [some (.inr (.inr 71))] [] w = Lm P0 (M0 Ls) d m_RR_readLine 125 [some (.inr (.inr 71))] [] w := by
  rw [Lm_unf P0 (M0 Ls) sp_97 3]
  rfl
set_option maxRecDepth 100000 in
theorem E_97_86 (Ls d : Nat) (y0 : Int) (w : AW) : Lm P0 (M0 Ls) d m_RR_readLine 86 [some (.inr (.inr 71))] [.inl y0] w = (if y0 = 0 then Lk P0 (M0 Ls) d m_Tape_isWord [.inr (.inr 55), .inr (.inr 23)] w (fun r_ w_ => Lm P0 (M0 Ls) d m_RR_readLine 106 [some (.inr (.inr 71))] (r_.toList ++ []) w_) else Lk P0 (M0 Ls) d m_RR_readLaw [.inr (.inr 71), .inl 1] w (fun r_ w_ => Lm P0 (M0 Ls) d m_RR_readLine 94 [some (.inr (.inr 71))] (r_.toList ++ []) w_)) := by
  rw [Lm_unf P0 (M0 Ls) sp_97 6]
  rfl
set_option maxRecDepth 100000 in
theorem E_97_94 (Ls d : Nat) (w : AW) : Lm P0 (M0 Ls) d m_RR_readLine 94 [some (.inr (.inr 71))] [] w = Lm P0 (M0 Ls) d m_RR_readLine 125 [some (.inr (.inr 71))] [] w := by
  rw [Lm_unf P0 (M0 Ls) sp_97 3]
  rfl
set_option maxRecDepth 100000 in
theorem E_97_106 (Ls d : Nat) (y0 : Int) (w : AW) : Lm P0 (M0 Ls) d m_RR_readLine 106 [some (.inr (.inr 71))] [.inl y0] w = (if y0 = 0 then Lk P0 (M0 Ls) d m_Tape_wrong [.inr (.inr 55), .inl 1] w (fun r_ w_ => Lm P0 (M0 Ls) d m_RR_readLine 125 [some (.inr (.inr 71))] (r_.toList ++ []) w_) else Lk P0 (M0 Ls) d m_RR_readLaw [.inr (.inr 71), .inl 2] w (fun r_ w_ => Lm P0 (M0 Ls) d m_RR_readLine 114 [some (.inr (.inr 71))] (r_.toList ++ []) w_)) := by
  rw [Lm_unf P0 (M0 Ls) sp_97 6]
  rfl
set_option maxRecDepth 100000 in
theorem E_97_114 (Ls d : Nat) (w : AW) : Lm P0 (M0 Ls) d m_RR_readLine 114 [some (.inr (.inr 71))] [] w = Lm P0 (M0 Ls) d m_RR_readLine 125 [some (.inr (.inr 71))] [] w := by
  rw [Lm_unf P0 (M0 Ls) sp_97 3]
  rfl
set_option maxRecDepth 100000 in
theorem E_97_125 (Ls d : Nat) (w : AW) : Lm P0 (M0 Ls) d m_RR_readLine 125 [some (.inr (.inr 71))] [] w = some (none, w) := by
  rw [Lm_unf P0 (M0 Ls) sp_97 2]
  rfl
def sp_98 : Nat → Bool := fun q => [0, 15, 28, 42].contains q
set_option maxRecDepth 100000 in
theorem E_98_0 (Ls d : Nat) (w : AW) : Lm P0 (M0 Ls) d m_RR_readNotes 0 [some (.inr (.inr 71))] [] w = (if (rd w 70 2) = 0 then Lk P0 (M0 Ls) d m_Tape_advance [.inr (.inr 55)] (wC w 70 2 1) (fun r_ w_ => Lm P0 (M0 Ls) d m_RR_readNotes 28 [some (.inr (.inr 71))] (r_.toList ++ []) w_) else Lk P0 (M0 Ls) d m_Tape_wrong [.inr (.inr 55), .inl 3] w (fun r_ w_ => Lm P0 (M0 Ls) d m_RR_readNotes 15 [some (.inr (.inr 71))] (r_.toList ++ []) w_)) := by
  rw [Lm_unf P0 (M0 Ls) sp_98 10]
  rfl
set_option maxRecDepth 100000 in
theorem E_98_15 (Ls d : Nat) (w : AW) : Lm P0 (M0 Ls) d m_RR_readNotes 15 [some (.inr (.inr 71))] [] w = some (none, w) := by
  rw [Lm_unf P0 (M0 Ls) sp_98 2]
  rfl
set_option maxRecDepth 100000 in
theorem E_98_28 (Ls d : Nat) (w : AW) : Lm P0 (M0 Ls) d m_RR_readNotes 28 [some (.inr (.inr 71))] [] w = Lk P0 (M0 Ls) d m_Tape_needNumber [.inr (.inr 55), .inl 2, .inl 12] w (fun r_ w_ => Lm P0 (M0 Ls) d m_RR_readNotes 42 [some (.inr (.inr 71))] (r_.toList ++ [.inr (.inr 72)]) w_) := by
  rw [Lm_unf P0 (M0 Ls) sp_98 8]
  rfl
set_option maxRecDepth 100000 in
theorem E_98_42 (Ls d : Nat) (y0 : Int) (w : AW) : Lm P0 (M0 Ls) d m_RR_readNotes 42 [some (.inr (.inr 71))] [.inl y0, .inr (.inr 72)] w = some (none, wC w 71 0 y0) := by
  rw [Lm_unf P0 (M0 Ls) sp_98 3]
  rfl
def sp_99 : Nat → Bool := fun q => [0, 15, 28, 42].contains q
set_option maxRecDepth 100000 in
theorem E_99_0 (Ls d : Nat) (w : AW) : Lm P0 (M0 Ls) d m_RR_readMeter 0 [some (.inr (.inr 71))] [] w = (if (rd w 70 3) = 0 then Lk P0 (M0 Ls) d m_Tape_advance [.inr (.inr 55)] (wC w 70 3 1) (fun r_ w_ => Lm P0 (M0 Ls) d m_RR_readMeter 28 [some (.inr (.inr 71))] (r_.toList ++ []) w_) else Lk P0 (M0 Ls) d m_Tape_wrong [.inr (.inr 55), .inl 3] w (fun r_ w_ => Lm P0 (M0 Ls) d m_RR_readMeter 15 [some (.inr (.inr 71))] (r_.toList ++ []) w_)) := by
  rw [Lm_unf P0 (M0 Ls) sp_99 10]
  rfl
set_option maxRecDepth 100000 in
theorem E_99_15 (Ls d : Nat) (w : AW) : Lm P0 (M0 Ls) d m_RR_readMeter 15 [some (.inr (.inr 71))] [] w = some (none, w) := by
  rw [Lm_unf P0 (M0 Ls) sp_99 2]
  rfl
set_option maxRecDepth 100000 in
theorem E_99_28 (Ls d : Nat) (w : AW) : Lm P0 (M0 Ls) d m_RR_readMeter 28 [some (.inr (.inr 71))] [] w = Lk P0 (M0 Ls) d m_Tape_needNumber [.inr (.inr 55), .inl 1, .inl 8] w (fun r_ w_ => Lm P0 (M0 Ls) d m_RR_readMeter 42 [some (.inr (.inr 71))] (r_.toList ++ [.inr (.inr 72)]) w_) := by
  rw [Lm_unf P0 (M0 Ls) sp_99 8]
  rfl
set_option maxRecDepth 100000 in
theorem E_99_42 (Ls d : Nat) (y0 : Int) (w : AW) : Lm P0 (M0 Ls) d m_RR_readMeter 42 [some (.inr (.inr 71))] [.inl y0, .inr (.inr 72)] w = some (none, wC w 71 1 y0) := by
  rw [Lm_unf P0 (M0 Ls) sp_99 3]
  rfl
def sp_100 : Nat → Bool := fun q => [0, 22, 30, 39, 57, 63, 80, 96, 104, 122, 136, 140].contains q
set_option maxRecDepth 100000 in
theorem E_100_0 (Ls d : Nat) (w : AW) : Lm P0 (M0 Ls) d m_RR_readEcho 0 [some (.inr (.inr 71)), none] [] w = (if (rd w 71 2) < 8 then Lk P0 (M0 Ls) d m_Tape_advance [.inr (.inr 55)] w (fun r_ w_ => Lm P0 (M0 Ls) d m_RR_readEcho 30 [some (.inr (.inr 71)), some (.inl (rd w 71 2))] (r_.toList ++ []) w_) else Lk P0 (M0 Ls) d m_Tape_wrong [.inr (.inr 55), .inl 5] w (fun r_ w_ => Lm P0 (M0 Ls) d m_RR_readEcho 22 [some (.inr (.inr 71)), some (.inl (rd w 71 2))] (r_.toList ++ []) w_)) := by
  rw [Lm_unf P0 (M0 Ls) sp_100 12]
  rfl
set_option maxRecDepth 100000 in
theorem E_100_22 (Ls d : Nat) (x1 : Int) (w : AW) : Lm P0 (M0 Ls) d m_RR_readEcho 22 [some (.inr (.inr 71)), some (.inl x1)] [] w = some (none, w) := by
  rw [Lm_unf P0 (M0 Ls) sp_100 2]
  rfl
set_option maxRecDepth 100000 in
theorem E_100_30 (Ls d : Nat) (x1 : Int) (w : AW) : Lm P0 (M0 Ls) d m_RR_readEcho 30 [some (.inr (.inr 71)), some (.inl x1)] [] w = Lk P0 (M0 Ls) d m_Tape_needWord [.inr (.inr 55), .inr (.inr 6)] w (fun r_ w_ => Lm P0 (M0 Ls) d m_RR_readEcho 39 [some (.inr (.inr 71)), some (.inl x1)] (r_.toList ++ []) w_) := by
  rw [Lm_unf P0 (M0 Ls) sp_100 5]
  rfl
set_option maxRecDepth 100000 in
theorem E_100_39 (Ls d : Nat) (x1 : Int) (w : AW) : Lm P0 (M0 Ls) d m_RR_readEcho 39 [some (.inr (.inr 71)), some (.inl x1)] [] w = Lk P0 (M0 Ls) d m_Tape_needNumber [.inr (.inr 55), .inl 1, .inl 64] w (fun r_ w_ => Lm P0 (M0 Ls) d m_RR_readEcho 57 [some (.inr (.inr 71)), some (.inl x1)] (r_.toList ++ [.inl x1, .inr (.inr 73)]) w_) := by
  rw [Lm_unf P0 (M0 Ls) sp_100 10]
  rfl
set_option maxRecDepth 100000 in
theorem E_100_57 (Ls d : Nat) (x1 y0 y1 : Int) (w : AW) : Lm P0 (M0 Ls) d m_RR_readEcho 57 [some (.inr (.inr 71)), some (.inl x1)] [.inl y0, .inl y1, .inr (.inr 73)] w = (if 0 ≤ y1 ∧ y1 < 8 then Lk P0 (M0 Ls) d m_RR_readShift [.inr (.inr 71), .inl x1] (wC w 72 y1 y0) (fun r_ w_ => Lm P0 (M0 Ls) d m_RR_readEcho 63 [some (.inr (.inr 71)), some (.inl x1)] (r_.toList ++ []) w_) else none) := by
  rw [Lm_unf P0 (M0 Ls) sp_100 5]
  rfl
set_option maxRecDepth 100000 in
theorem E_100_63 (Ls d : Nat) (x1 : Int) (w : AW) : Lm P0 (M0 Ls) d m_RR_readEcho 63 [some (.inr (.inr 71)), some (.inl x1)] [] w = Lk P0 (M0 Ls) d m_Tape_tookWord [.inr (.inr 55), .inr (.inr 10)] w (fun r_ w_ => Lm P0 (M0 Ls) d m_RR_readEcho 80 [some (.inr (.inr 71)), some (.inl x1)] (r_.toList ++ [.inl x1, .inr (.inr 76)]) w_) := by
  rw [Lm_unf P0 (M0 Ls) sp_100 9]
  rfl
set_option maxRecDepth 100000 in
theorem E_100_80 (Ls d : Nat) (x1 y0 y1 : Int) (w : AW) : Lm P0 (M0 Ls) d m_RR_readEcho 80 [some (.inr (.inr 71)), some (.inl x1)] [.inl y0, .inl y1, .inr (.inr 76)] w = (if y0 = 0 then Lk P0 (M0 Ls) d m_Tape_tookWord [.inr (.inr 55), .inr (.inr 11)] w (fun r_ w_ => Lm P0 (M0 Ls) d m_RR_readEcho 96 [some (.inr (.inr 71)), some (.inl x1)] (r_.toList ++ [.inl y1, .inr (.inr 76)]) w_) else Lm P0 (M0 Ls) d m_RR_readEcho 104 [some (.inr (.inr 71)), some (.inl x1)] [.inl 1, .inl y1, .inr (.inr 76)] w) := by
  rw [Lm_unf P0 (M0 Ls) sp_100 6]
  rfl
set_option maxRecDepth 100000 in
theorem E_100_96 (Ls d : Nat) (x1 y0 y1 : Int) (w : AW) : Lm P0 (M0 Ls) d m_RR_readEcho 96 [some (.inr (.inr 71)), some (.inl x1)] [.inl y0, .inl y1, .inr (.inr 76)] w = (if y0 = 0 then Lm P0 (M0 Ls) d m_RR_readEcho 104 [some (.inr (.inr 71)), some (.inl x1)] [.inl 0, .inl y1, .inr (.inr 76)] w else Lm P0 (M0 Ls) d m_RR_readEcho 104 [some (.inr (.inr 71)), some (.inl x1)] [.inl 2, .inl y1, .inr (.inr 76)] w) := by
  rw [Lm_unf P0 (M0 Ls) sp_100 5]
  rfl
set_option maxRecDepth 100000 in
theorem E_100_104 (Ls d : Nat) (x1 y0 y1 : Int) (w : AW) : Lm P0 (M0 Ls) d m_RR_readEcho 104 [some (.inr (.inr 71)), some (.inl x1)] [.inl y0, .inl y1, .inr (.inr 76)] w = (if 0 ≤ y1 ∧ y1 < 8 then Lk P0 (M0 Ls) d m_Tape_tookWord [.inr (.inr 55), .inr (.inr 12)] (wC w 75 y1 y0) (fun r_ w_ => Lm P0 (M0 Ls) d m_RR_readEcho 122 [some (.inr (.inr 71)), some (.inl x1)] (r_.toList ++ [.inl x1, .inr (.inr 77)]) w_) else none) := by
  rw [Lm_unf P0 (M0 Ls) sp_100 10]
  rfl
set_option maxRecDepth 100000 in
theorem E_100_122 (Ls d : Nat) (x1 y0 y1 : Int) (w : AW) : Lm P0 (M0 Ls) d m_RR_readEcho 122 [some (.inr (.inr 71)), some (.inl x1)] [.inl y0, .inl y1, .inr (.inr 77)] w = (if y0 = 0 then Lm P0 (M0 Ls) d m_RR_readEcho 140 [some (.inr (.inr 71)), some (.inl x1)] [.inl 0, .inl y1, .inr (.inr 77)] w else Lk P0 (M0 Ls) d m_Tape_needNumber [.inr (.inr 55), .inl 1, .inl 200] w (fun r_ w_ => Lm P0 (M0 Ls) d m_RR_readEcho 136 [some (.inr (.inr 71)), some (.inl x1)] (r_.toList ++ [.inl y1, .inr (.inr 77)]) w_)) := by
  rw [Lm_unf P0 (M0 Ls) sp_100 7]
  rfl
set_option maxRecDepth 100000 in
theorem E_100_136 (Ls d : Nat) (x1 y0 y1 : Int) (w : AW) : Lm P0 (M0 Ls) d m_RR_readEcho 136 [some (.inr (.inr 71)), some (.inl x1)] [.inl y0, .inl y1, .inr (.inr 77)] w = Lm P0 (M0 Ls) d m_RR_readEcho 140 [some (.inr (.inr 71)), some (.inl x1)] [.inl y0, .inl y1, .inr (.inr 77)] w := by
  rw [Lm_unf P0 (M0 Ls) sp_100 3]
  rfl
set_option maxRecDepth 100000 in
theorem E_100_140 (Ls d : Nat) (x1 y0 y1 : Int) (w : AW) : Lm P0 (M0 Ls) d m_RR_readEcho 140 [some (.inr (.inr 71)), some (.inl x1)] [.inl y0, .inl y1, .inr (.inr 77)] w = (if 0 ≤ y1 ∧ y1 < 8 then some (none, wC (wC w 76 y1 y0) 71 2 (w32 ((rd (wC w 76 y1 y0) 71 2) + 1))) else none) := by
  rw [Lm_unf P0 (M0 Ls) sp_100 10]
  rfl
def sp_101 : Nat → Bool := fun q => [0, 19, 40, 53, 74, 88, 117, 119].contains q
set_option maxRecDepth 100000 in
theorem E_101_0 (Ls d : Nat) (p1 : Int) (w : AW) : Lm P0 (M0 Ls) d m_RR_readShift 0 [some (.inr (.inr 71)), some (.inl p1)] [] w = (if 0 ≤ p1 ∧ p1 < 8 then Lk P0 (M0 Ls) d m_Tape_tookWord [.inr (.inr 55), .inr (.inr 7)] (wC w 73 p1 1) (fun r_ w_ => Lm P0 (M0 Ls) d m_RR_readShift 19 [some (.inr (.inr 71)), some (.inl p1)] (r_.toList ++ []) w_) else none) := by
  rw [Lm_unf P0 (M0 Ls) sp_101 11]
  rfl
set_option maxRecDepth 100000 in
theorem E_101_19 (Ls d : Nat) (x1 y0 : Int) (w : AW) : Lm P0 (M0 Ls) d m_RR_readShift 19 [some (.inr (.inr 71)), some (.inl x1)] [.inl y0] w = (if y0 = 0 then Lk P0 (M0 Ls) d m_Tape_tookWord [.inr (.inr 55), .inr (.inr 8)] w (fun r_ w_ => Lm P0 (M0 Ls) d m_RR_readShift 53 [some (.inr (.inr 71)), some (.inl x1)] (r_.toList ++ []) w_) else Lk P0 (M0 Ls) d m_Tape_needNumber [.inr (.inr 55), .inl 0, .inl 24] w (fun r_ w_ => Lm P0 (M0 Ls) d m_RR_readShift 40 [some (.inr (.inr 71)), some (.inl x1)] (r_.toList ++ [.inl x1, .inr (.inr 75)]) w_)) := by
  rw [Lm_unf P0 (M0 Ls) sp_101 11]
  rfl
set_option maxRecDepth 100000 in
theorem E_101_40 (Ls d : Nat) (x1 y0 y1 : Int) (w : AW) : Lm P0 (M0 Ls) d m_RR_readShift 40 [some (.inr (.inr 71)), some (.inl x1)] [.inl y0, .inl y1, .inr (.inr 75)] w = (if 0 ≤ y1 ∧ y1 < 8 then Lm P0 (M0 Ls) d m_RR_readShift 119 [some (.inr (.inr 71)), some (.inl x1)] [] (wC w 74 y1 y0) else none) := by
  rw [Lm_unf P0 (M0 Ls) sp_101 4]
  rfl
set_option maxRecDepth 100000 in
theorem E_101_53 (Ls d : Nat) (x1 y0 : Int) (w : AW) : Lm P0 (M0 Ls) d m_RR_readShift 53 [some (.inr (.inr 71)), some (.inl x1)] [.inl y0] w = (if y0 = 0 then Lk P0 (M0 Ls) d m_Tape_needWord [.inr (.inr 55), .inr (.inr 9)] w (fun r_ w_ => Lm P0 (M0 Ls) d m_RR_readShift 88 [some (.inr (.inr 71)), some (.inl x1)] (r_.toList ++ []) w_) else Lk P0 (M0 Ls) d m_Tape_needNumber [.inr (.inr 55), .inl 0, .inl 24] w (fun r_ w_ => Lm P0 (M0 Ls) d m_RR_readShift 74 [some (.inr (.inr 71)), some (.inl x1)] (r_.toList ++ [.inl x1, .inr (.inr 75)]) w_)) := by
  rw [Lm_unf P0 (M0 Ls) sp_101 11]
  rfl
set_option maxRecDepth 100000 in
theorem E_101_74 (Ls d : Nat) (x1 y0 y1 : Int) (w : AW) : Lm P0 (M0 Ls) d m_RR_readShift 74 [some (.inr (.inr 71)), some (.inl x1)] [.inl y0, .inl y1, .inr (.inr 75)] w = (if 0 ≤ y1 ∧ y1 < 8 then Lm P0 (M0 Ls) d m_RR_readShift 119 [some (.inr (.inr 71)), some (.inl x1)] [] (wC w 74 y1 (w32 (-y0))) else none) := by
  rw [Lm_unf P0 (M0 Ls) sp_101 5]
  rfl
set_option maxRecDepth 100000 in
theorem E_101_88 (Ls d : Nat) (x1 : Int) (w : AW) : Lm P0 (M0 Ls) d m_RR_readShift 88 [some (.inr (.inr 71)), some (.inl x1)] [] w = (if 0 ≤ x1 ∧ x1 < 8 then Lk P0 (M0 Ls) d m_Tape_needNumber [.inr (.inr 55), .inl 0, .inl 24] (wC w 73 x1 (-1)) (fun r_ w_ => Lm P0 (M0 Ls) d m_RR_readShift 117 [some (.inr (.inr 71)), some (.inl x1)] (r_.toList ++ [.inl 2, .inl x1, .inr (.inr 75)]) w_) else none) := by
  rw [Lm_unf P0 (M0 Ls) sp_101 17]
  rfl
set_option maxRecDepth 100000 in
theorem E_101_117 (Ls d : Nat) (x1 y0 y1 y2 : Int) (w : AW) : Lm P0 (M0 Ls) d m_RR_readShift 117 [some (.inr (.inr 71)), some (.inl x1)] [.inl y0, .inl y1, .inl y2, .inr (.inr 75)] w = (if 0 ≤ y2 ∧ y2 < 8 then Lm P0 (M0 Ls) d m_RR_readShift 119 [some (.inr (.inr 71)), some (.inl x1)] [] (wC w 74 y2 (w32 (y1 * y0))) else none) := by
  rw [Lm_unf P0 (M0 Ls) sp_101 4]
  rfl
set_option maxRecDepth 100000 in
theorem E_101_119 (Ls d : Nat) (x1 : Int) (w : AW) : Lm P0 (M0 Ls) d m_RR_readShift 119 [some (.inr (.inr 71)), some (.inl x1)] [] w = some (none, w) := by
  rw [Lm_unf P0 (M0 Ls) sp_101 2]
  rfl
def sp_102 : Nat → Bool := fun q => [0, 15, 26, 47, 71, 75].contains q
set_option maxRecDepth 100000 in
theorem E_102_0 (Ls d : Nat) (p1 : Int) (w : AW) : Lm P0 (M0 Ls) d m_RR_readLaw 0 [some (.inr (.inr 71)), some (.inl p1), none, none] [] w = (if 0 ≤ p1 ∧ p1 < 3 then Lk P0 (M0 Ls) d m_Rock_mostLines [.inl p1] w (fun r_ w_ => Lm P0 (M0 Ls) d m_RR_readLaw 15 [some (.inr (.inr 71)), some (.inl p1), some (.inl (rd w 77 p1)), none] (r_.toList ++ [.inl (rd w 77 p1)]) w_) else none) := by
  rw [Lm_unf P0 (M0 Ls) sp_102 10]
  rfl
set_option maxRecDepth 100000 in
theorem E_102_15 (Ls d : Nat) (x1 x2 y0 y1 : Int) (w : AW) : Lm P0 (M0 Ls) d m_RR_readLaw 15 [some (.inr (.inr 71)), some (.inl x1), some (.inl x2), none] [.inl y0, .inl y1] w = (if y1 < y0 then Lk P0 (M0 Ls) d m_Rock_place [.inl x1, .inl x2] (wC (wC (wC w 70 4 x1) 70 6 0) 70 7 0) (fun r_ w_ => Lm P0 (M0 Ls) d m_RR_readLaw 47 [some (.inr (.inr 71)), some (.inl x1), some (.inl x2), none] (r_.toList ++ []) w_) else Lk P0 (M0 Ls) d m_Tape_wrong [.inr (.inr 55), .inl 5] w (fun r_ w_ => Lm P0 (M0 Ls) d m_RR_readLaw 26 [some (.inr (.inr 71)), some (.inl x1), some (.inl x2), none] (r_.toList ++ []) w_)) := by
  rw [Lm_unf P0 (M0 Ls) sp_102 14]
  rfl
set_option maxRecDepth 100000 in
theorem E_102_26 (Ls d : Nat) (x1 x2 : Int) (w : AW) : Lm P0 (M0 Ls) d m_RR_readLaw 26 [some (.inr (.inr 71)), some (.inl x1), some (.inl x2), none] [] w = some (none, w) := by
  rw [Lm_unf P0 (M0 Ls) sp_102 2]
  rfl
set_option maxRecDepth 100000 in
theorem E_102_47 (Ls d : Nat) (x1 x2 y0 : Int) (w : AW) : Lm P0 (M0 Ls) d m_RR_readLaw 47 [some (.inr (.inr 71)), some (.inl x1), some (.inl x2), none] [.inl y0] w = (if 0 ≤ y0 ∧ y0 < 8 then Lk P0 (M0 Ls) d m_Tape_advance [.inr (.inr 55)] (wC w 78 y0 (rd w 71 12)) (fun r_ w_ => Lm P0 (M0 Ls) d m_RR_readLaw 71 [some (.inr (.inr 71)), some (.inl x1), some (.inl x2), some (.inl y0)] (r_.toList ++ []) w_) else none) := by
  rw [Lm_unf P0 (M0 Ls) sp_102 13]
  rfl
set_option maxRecDepth 100000 in
theorem E_102_71 (Ls d : Nat) (x1 x2 x3 : Int) (w : AW) : Lm P0 (M0 Ls) d m_RR_readLaw 71 [some (.inr (.inr 71)), some (.inl x1), some (.inl x2), some (.inl x3)] [] w = Lk P0 (M0 Ls) d m_RR_readE [.inr (.inr 71)] w (fun r_ w_ => Lm P0 (M0 Ls) d m_RR_readLaw 75 [some (.inr (.inr 71)), some (.inl x1), some (.inl x2), some (.inl x3)] (r_.toList ++ []) w_) := by
  rw [Lm_unf P0 (M0 Ls) sp_102 3]
  rfl
set_option maxRecDepth 100000 in
theorem E_102_75 (Ls d : Nat) (x1 x2 x3 : Int) (w : AW) : Lm P0 (M0 Ls) d m_RR_readLaw 75 [some (.inr (.inr 71)), some (.inl x1), some (.inl x2), some (.inl x3)] [] w = (if 0 ≤ x3 ∧ x3 < 8 then (if 0 ≤ x1 ∧ x1 < 3 then (if 0 ≤ x1 ∧ x1 < 3 then some (none, wC (wC w 79 x3 (rd w 71 12)) 77 x1 (w32 ((rd (wC w 79 x3 (rd w 71 12)) 77 x1) + 1))) else none) else none) else none) := by
  rw [Lm_unf P0 (M0 Ls) sp_102 19]
  rfl
def sp_103 : Nat → Bool := fun q => [0, 4, 29, 37, 45, 53, 56, 65, 69, 75].contains q
set_option maxRecDepth 100000 in
theorem E_103_0 (Ls d : Nat) (w : AW) : Lm P0 (M0 Ls) d m_RR_readE 0 [some (.inr (.inr 71)), none, none] [] w = Lm P0 (M0 Ls) d m_RR_readE 4 [some (.inr (.inr 71)), some (.inl 1), some (.inl 0)] [] w := by
  rw [Lm_unf P0 (M0 Ls) sp_103 6]
  rfl
set_option maxRecDepth 100000 in
theorem E_103_4 (Ls d : Nat) (x1 x2 : Int) (w : AW) : Lm P0 (M0 Ls) d m_RR_readE 4 [some (.inr (.inr 71)), some (.inl x1), some (.inl x2)] [] w = (if 1000 < x2 then Lm P0 (M0 Ls) d m_RR_readE 75 [some (.inr (.inr 71)), some (.inl x1), some (.inl x2)] [] w else (if (rd w 54 2) = 0 then (if x1 = 0 then Lk P0 (M0 Ls) d m_RR_jointHere [.inr (.inr 71)] w (fun r_ w_ => Lm P0 (M0 Ls) d m_RR_readE 45 [some (.inr (.inr 71)), some (.inl x1), some (.inl x2)] (r_.toList ++ []) w_) else Lk P0 (M0 Ls) d m_RR_endedPart [.inr (.inr 71)] w (fun r_ w_ => Lm P0 (M0 Ls) d m_RR_readE 29 [some (.inr (.inr 71)), some (.inl x1), some (.inl x2)] (r_.toList ++ []) w_)) else Lm P0 (M0 Ls) d m_RR_readE 75 [some (.inr (.inr 71)), some (.inl x1), some (.inl x2)] [] w)) := by
  rw [Lm_unf P0 (M0 Ls) sp_103 12]
  rfl
set_option maxRecDepth 100000 in
theorem E_103_29 (Ls d : Nat) (x1 x2 y0 : Int) (w : AW) : Lm P0 (M0 Ls) d m_RR_readE 29 [some (.inr (.inr 71)), some (.inl x1), some (.inl x2)] [.inl y0] w = (if y0 = 0 then Lm P0 (M0 Ls) d m_RR_readE 37 [some (.inr (.inr 71)), some (.inl x1), some (.inl x2)] [.inl 1] w else Lm P0 (M0 Ls) d m_RR_readE 37 [some (.inr (.inr 71)), some (.inl x1), some (.inl x2)] [.inl 0] w) := by
  rw [Lm_unf P0 (M0 Ls) sp_103 5]
  rfl
set_option maxRecDepth 100000 in
theorem E_103_37 (Ls d : Nat) (x1 x2 y0 : Int) (w : AW) : Lm P0 (M0 Ls) d m_RR_readE 37 [some (.inr (.inr 71)), some (.inl x1), some (.inl x2)] [.inl y0] w = Lm P0 (M0 Ls) d m_RR_readE 69 [some (.inr (.inr 71)), some (.inl y0), some (.inl x2)] [] w := by
  rw [Lm_unf P0 (M0 Ls) sp_103 4]
  rfl
set_option maxRecDepth 100000 in
theorem E_103_45 (Ls d : Nat) (x1 x2 y0 : Int) (w : AW) : Lm P0 (M0 Ls) d m_RR_readE 45 [some (.inr (.inr 71)), some (.inl x1), some (.inl x2)] [.inl y0] w = (if y0 = 0 then Lk P0 (M0 Ls) d m_RR_closedBracket [.inr (.inr 71)] w (fun r_ w_ => Lm P0 (M0 Ls) d m_RR_readE 65 [some (.inr (.inr 71)), some (.inl x1), some (.inl x2)] (r_.toList ++ []) w_) else Lk P0 (M0 Ls) d m_RR_jointHere [.inr (.inr 71)] w (fun r_ w_ => Lm P0 (M0 Ls) d m_RR_readE 53 [some (.inr (.inr 71)), some (.inl x1), some (.inl x2)] (r_.toList ++ [.inr (.inr 71)]) w_)) := by
  rw [Lm_unf P0 (M0 Ls) sp_103 5]
  rfl
set_option maxRecDepth 100000 in
theorem E_103_53 (Ls d : Nat) (x1 x2 y0 : Int) (w : AW) : Lm P0 (M0 Ls) d m_RR_readE 53 [some (.inr (.inr 71)), some (.inl x1), some (.inl x2)] [.inl y0, .inr (.inr 71)] w = Lk P0 (M0 Ls) d m_RR_join [.inr (.inr 71), .inl y0] w (fun r_ w_ => Lm P0 (M0 Ls) d m_RR_readE 56 [some (.inr (.inr 71)), some (.inl x1), some (.inl x2)] (r_.toList ++ []) w_) := by
  rw [Lm_unf P0 (M0 Ls) sp_103 2]
  rfl
set_option maxRecDepth 100000 in
theorem E_103_56 (Ls d : Nat) (x1 x2 : Int) (w : AW) : Lm P0 (M0 Ls) d m_RR_readE 56 [some (.inr (.inr 71)), some (.inl x1), some (.inl x2)] [] w = Lm P0 (M0 Ls) d m_RR_readE 69 [some (.inr (.inr 71)), some (.inl 1), some (.inl x2)] [] w := by
  rw [Lm_unf P0 (M0 Ls) sp_103 5]
  rfl
set_option maxRecDepth 100000 in
theorem E_103_65 (Ls d : Nat) (x1 x2 y0 : Int) (w : AW) : Lm P0 (M0 Ls) d m_RR_readE 65 [some (.inr (.inr 71)), some (.inl x1), some (.inl x2)] [.inl y0] w = (if y0 = 0 then some (none, w) else Lm P0 (M0 Ls) d m_RR_readE 69 [some (.inr (.inr 71)), some (.inl x1), some (.inl x2)] [] w) := by
  rw [Lm_unf P0 (M0 Ls) sp_103 3]
  rfl
set_option maxRecDepth 100000 in
theorem E_103_69 (Ls d : Nat) (x1 x2 : Int) (w : AW) : Lm P0 (M0 Ls) d m_RR_readE 69 [some (.inr (.inr 71)), some (.inl x1), some (.inl x2)] [] w = Lm P0 (M0 Ls) d m_RR_readE 4 [some (.inr (.inr 71)), some (.inl x1), some (.inl (w32 (x2 + 1)))] [] w := by
  rw [Lm_unf P0 (M0 Ls) sp_103 4]
  rfl
set_option maxRecDepth 100000 in
theorem E_103_75 (Ls d : Nat) (x1 x2 : Int) (w : AW) : Lm P0 (M0 Ls) d m_RR_readE 75 [some (.inr (.inr 71)), some (.inl x1), some (.inl x2)] [] w = some (none, w) := by
  rw [Lm_unf P0 (M0 Ls) sp_103 2]
  rfl
def sp_104 : Nat → Bool := fun q => [0, 4, 21, 31, 53, 64, 66, 82, 92, 113, 116, 120, 134, 137, 147, 154, 162, 167].contains q
set_option maxRecDepth 100000 in
theorem E_104_0 (Ls d : Nat) (w : AW) : Lm P0 (M0 Ls) d m_RR_endedPart 0 [some (.inr (.inr 71)), none, none, none] [] w = Lk P0 (M0 Ls) d m_RR_factHere [.inr (.inr 71)] w (fun r_ w_ => Lm P0 (M0 Ls) d m_RR_endedPart 4 [some (.inr (.inr 71)), none, none, none] (r_.toList ++ []) w_) := by
  rw [Lm_unf P0 (M0 Ls) sp_104 3]
  rfl
set_option maxRecDepth 100000 in
theorem E_104_4 (Ls d : Nat) (y0 : Int) (w : AW) : Lm P0 (M0 Ls) d m_RR_endedPart 4 [some (.inr (.inr 71)), none, none, none] [.inl y0] w = (if (rd w 54 3) = 2 then Lm P0 (M0 Ls) d m_RR_endedPart 21 [some (.inr (.inr 71)), some (.inl y0), none, none] [.inl 1] w else Lm P0 (M0 Ls) d m_RR_endedPart 21 [some (.inr (.inr 71)), some (.inl y0), none, none] [.inl 0] w) := by
  rw [Lm_unf P0 (M0 Ls) sp_104 10]
  rfl
set_option maxRecDepth 100000 in
theorem E_104_21 (Ls d : Nat) (x1 y0 : Int) (w : AW) : Lm P0 (M0 Ls) d m_RR_endedPart 21 [some (.inr (.inr 71)), some (.inl x1), none, none] [.inl y0] w = Lk P0 (M0 Ls) d m_Tape_isWord [.inr (.inr 55), .inr (.inr 19)] w (fun r_ w_ => Lm P0 (M0 Ls) d m_RR_endedPart 31 [some (.inr (.inr 71)), some (.inl x1), some (.inl y0), none] (r_.toList ++ []) w_) := by
  rw [Lm_unf P0 (M0 Ls) sp_104 6]
  rfl
set_option maxRecDepth 100000 in
theorem E_104_31 (Ls d : Nat) (x1 x2 y0 : Int) (w : AW) : Lm P0 (M0 Ls) d m_RR_endedPart 31 [some (.inr (.inr 71)), some (.inl x1), some (.inl x2), none] [.inl y0] w = (if x2 = 0 then (if x1 < 0 then (if y0 = 0 then Lk P0 (M0 Ls) d m_Tape_isSign [.inr (.inr 55), .inl 40] w (fun r_ w_ => Lm P0 (M0 Ls) d m_RR_endedPart 53 [some (.inr (.inr 71)), some (.inl x1), some (.inl x2), some (.inl y0)] (r_.toList ++ []) w_) else Lm P0 (M0 Ls) d m_RR_endedPart 66 [some (.inr (.inr 71)), some (.inl x1), some (.inl x2), some (.inl y0)] [] w) else Lm P0 (M0 Ls) d m_RR_endedPart 66 [some (.inr (.inr 71)), some (.inl x1), some (.inl x2), some (.inl y0)] [] w) else Lm P0 (M0 Ls) d m_RR_endedPart 66 [some (.inr (.inr 71)), some (.inl x1), some (.inl x2), some (.inl y0)] [] w) := by
  rw [Lm_unf P0 (M0 Ls) sp_104 12]
  rfl
set_option maxRecDepth 100000 in
theorem E_104_53 (Ls d : Nat) (x1 x2 x3 y0 : Int) (w : AW) : Lm P0 (M0 Ls) d m_RR_endedPart 53 [some (.inr (.inr 71)), some (.inl x1), some (.inl x2), some (.inl x3)] [.inl y0] w = (if y0 = 0 then Lk P0 (M0 Ls) d m_Tape_wrong [.inr (.inr 55), .inl 1] w (fun r_ w_ => Lm P0 (M0 Ls) d m_RR_endedPart 64 [some (.inr (.inr 71)), some (.inl x1), some (.inl x2), some (.inl x3)] (r_.toList ++ []) w_) else Lm P0 (M0 Ls) d m_RR_endedPart 66 [some (.inr (.inr 71)), some (.inl x1), some (.inl x2), some (.inl x3)] [] w) := by
  rw [Lm_unf P0 (M0 Ls) sp_104 6]
  rfl
set_option maxRecDepth 100000 in
theorem E_104_64 (Ls d : Nat) (x1 x2 x3 : Int) (w : AW) : Lm P0 (M0 Ls) d m_RR_endedPart 64 [some (.inr (.inr 71)), some (.inl x1), some (.inl x2), some (.inl x3)] [] w = some (some (.inl 0), w) := by
  rw [Lm_unf P0 (M0 Ls) sp_104 3]
  rfl
set_option maxRecDepth 100000 in
theorem E_104_66 (Ls d : Nat) (x1 x2 x3 : Int) (w : AW) : Lm P0 (M0 Ls) d m_RR_endedPart 66 [some (.inr (.inr 71)), some (.inl x1), some (.inl x2), some (.inl x3)] [] w = (if (rd w 70 7) < 5 then (if x2 = 0 then (if x1 < 0 then (if x3 = 0 then Lm P0 (M0 Ls) d m_RR_endedPart 134 [some (.inr (.inr 71)), some (.inl x1), some (.inl x2), some (.inl x3)] [.inl 0, .inr (.inr 71)] w else Lm P0 (M0 Ls) d m_RR_endedPart 134 [some (.inr (.inr 71)), some (.inl x1), some (.inl x2), some (.inl x3)] [.inl (-6), .inr (.inr 71)] w) else Lm P0 (M0 Ls) d m_RR_endedPart 92 [some (.inr (.inr 71)), some (.inl x1), some (.inl x2), some (.inl x3)] [] w) else Lm P0 (M0 Ls) d m_RR_endedPart 92 [some (.inr (.inr 71)), some (.inl x1), some (.inl x2), some (.inl x3)] [] w) else Lk P0 (M0 Ls) d m_Tape_wrong [.inr (.inr 55), .inl 5] w (fun r_ w_ => Lm P0 (M0 Ls) d m_RR_endedPart 82 [some (.inr (.inr 71)), some (.inl x1), some (.inl x2), some (.inl x3)] (r_.toList ++ []) w_)) := by
  rw [Lm_unf P0 (M0 Ls) sp_104 15]
  rfl
set_option maxRecDepth 100000 in
theorem E_104_82 (Ls d : Nat) (x1 x2 x3 : Int) (w : AW) : Lm P0 (M0 Ls) d m_RR_endedPart 82 [some (.inr (.inr 71)), some (.inl x1), some (.inl x2), some (.inl x3)] [] w = some (some (.inl 0), w) := by
  rw [Lm_unf P0 (M0 Ls) sp_104 3]
  rfl
set_option maxRecDepth 100000 in
theorem E_104_92 (Ls d : Nat) (x1 x2 x3 : Int) (w : AW) : Lm P0 (M0 Ls) d m_RR_endedPart 92 [some (.inr (.inr 71)), some (.inl x1), some (.inl x2), some (.inl x3)] [] w = (if x2 = 0 then Lm P0 (M0 Ls) d m_RR_endedPart 113 [some (.inr (.inr 71)), some (.inl x1), some (.inl x2), some (.inl x3)] [.inl (w32 ((-1) - x1)), .inr (.inr 72)] w else Lm P0 (M0 Ls) d m_RR_endedPart 113 [some (.inr (.inr 71)), some (.inl x1), some (.inl x2), some (.inl x3)] [.inl (rd w 54 4), .inr (.inr 72)] w) := by
  rw [Lm_unf P0 (M0 Ls) sp_104 10]
  rfl
set_option maxRecDepth 100000 in
theorem E_104_113 (Ls d : Nat) (x1 x2 x3 y0 : Int) (w : AW) : Lm P0 (M0 Ls) d m_RR_endedPart 113 [some (.inr (.inr 71)), some (.inl x1), some (.inl x2), some (.inl x3)] [.inl y0, .inr (.inr 72)] w = Lk P0 (M0 Ls) d m_Rock_emit [.inr (.inr 72), .inl y0] w (fun r_ w_ => Lm P0 (M0 Ls) d m_RR_endedPart 116 [some (.inr (.inr 71)), some (.inl x1), some (.inl x2), some (.inl x3)] (r_.toList ++ []) w_) := by
  rw [Lm_unf P0 (M0 Ls) sp_104 2]
  rfl
set_option maxRecDepth 100000 in
theorem E_104_116 (Ls d : Nat) (x1 x2 x3 : Int) (w : AW) : Lm P0 (M0 Ls) d m_RR_endedPart 116 [some (.inr (.inr 71)), some (.inl x1), some (.inl x2), some (.inl x3)] [] w = Lk P0 (M0 Ls) d m_RR_endNots [.inr (.inr 71)] w (fun r_ w_ => Lm P0 (M0 Ls) d m_RR_endedPart 120 [some (.inr (.inr 71)), some (.inl x1), some (.inl x2), some (.inl x3)] (r_.toList ++ []) w_) := by
  rw [Lm_unf P0 (M0 Ls) sp_104 3]
  rfl
set_option maxRecDepth 100000 in
theorem E_104_120 (Ls d : Nat) (x1 x2 x3 : Int) (w : AW) : Lm P0 (M0 Ls) d m_RR_endedPart 120 [some (.inr (.inr 71)), some (.inl x1), some (.inl x2), some (.inl x3)] [] w = Lm P0 (M0 Ls) d m_RR_endedPart 147 [some (.inr (.inr 71)), some (.inl x1), some (.inl x2), some (.inl x3)] [] w := by
  rw [Lm_unf P0 (M0 Ls) sp_104 3]
  rfl
set_option maxRecDepth 100000 in
theorem E_104_134 (Ls d : Nat) (x1 x2 x3 y0 : Int) (w : AW) : Lm P0 (M0 Ls) d m_RR_endedPart 134 [some (.inr (.inr 71)), some (.inl x1), some (.inl x2), some (.inl x3)] [.inl y0, .inr (.inr 71)] w = Lk P0 (M0 Ls) d m_RR_push [.inr (.inr 71), .inl y0] w (fun r_ w_ => Lm P0 (M0 Ls) d m_RR_endedPart 137 [some (.inr (.inr 71)), some (.inl x1), some (.inl x2), some (.inl x3)] (r_.toList ++ []) w_) := by
  rw [Lm_unf P0 (M0 Ls) sp_104 2]
  rfl
set_option maxRecDepth 100000 in
theorem E_104_137 (Ls d : Nat) (x1 x2 x3 : Int) (w : AW) : Lm P0 (M0 Ls) d m_RR_endedPart 137 [some (.inr (.inr 71)), some (.inl x1), some (.inl x2), some (.inl x3)] [] w = Lm P0 (M0 Ls) d m_RR_endedPart 147 [some (.inr (.inr 71)), some (.inl x1), some (.inl x2), some (.inl x3)] [] (wC w 70 7 (w32 ((rd w 70 7) + 1))) := by
  rw [Lm_unf P0 (M0 Ls) sp_104 8]
  rfl
set_option maxRecDepth 100000 in
theorem E_104_147 (Ls d : Nat) (x1 x2 x3 : Int) (w : AW) : Lm P0 (M0 Ls) d m_RR_endedPart 147 [some (.inr (.inr 71)), some (.inl x1), some (.inl x2), some (.inl x3)] [] w = Lk P0 (M0 Ls) d m_Tape_advance [.inr (.inr 55)] w (fun r_ w_ => Lm P0 (M0 Ls) d m_RR_endedPart 154 [some (.inr (.inr 71)), some (.inl x1), some (.inl x2), some (.inl x3)] (r_.toList ++ []) w_) := by
  rw [Lm_unf P0 (M0 Ls) sp_104 4]
  rfl
set_option maxRecDepth 100000 in
theorem E_104_154 (Ls d : Nat) (x1 x2 x3 : Int) (w : AW) : Lm P0 (M0 Ls) d m_RR_endedPart 154 [some (.inr (.inr 71)), some (.inl x1), some (.inl x2), some (.inl x3)] [] w = (if x2 = 0 then (if x1 < 0 then Lm P0 (M0 Ls) d m_RR_endedPart 167 [some (.inr (.inr 71)), some (.inl x1), some (.inl x2), some (.inl x3)] [.inl 0] w else Lm P0 (M0 Ls) d m_RR_endedPart 162 [some (.inr (.inr 71)), some (.inl x1), some (.inl x2), some (.inl x3)] [] w) else Lm P0 (M0 Ls) d m_RR_endedPart 162 [some (.inr (.inr 71)), some (.inl x1), some (.inl x2), some (.inl x3)] [] w) := by
  rw [Lm_unf P0 (M0 Ls) sp_104 7]
  rfl
set_option maxRecDepth 100000 in
theorem E_104_162 (Ls d : Nat) (x1 x2 x3 : Int) (w : AW) : Lm P0 (M0 Ls) d m_RR_endedPart 162 [some (.inr (.inr 71)), some (.inl x1), some (.inl x2), some (.inl x3)] [] w = Lm P0 (M0 Ls) d m_RR_endedPart 167 [some (.inr (.inr 71)), some (.inl x1), some (.inl x2), some (.inl x3)] [.inl 1] w := by
  rw [Lm_unf P0 (M0 Ls) sp_104 4]
  rfl
set_option maxRecDepth 100000 in
theorem E_104_167 (Ls d : Nat) (x1 x2 x3 y0 : Int) (w : AW) : Lm P0 (M0 Ls) d m_RR_endedPart 167 [some (.inr (.inr 71)), some (.inl x1), some (.inl x2), some (.inl x3)] [.inl y0] w = (if rok 3 y0 = true then some (some (.inl y0), w) else none) := by
  rw [Lm_unf P0 (M0 Ls) sp_104 2]
  rfl
def sp_105 : Nat → Bool := fun q => [0, 32, 55].contains q
set_option maxRecDepth 100000 in
theorem E_105_0 (Ls d : Nat) (w : AW) : Lm P0 (M0 Ls) d m_RR_endNots 0 [some (.inr (.inr 71))] [] w = (if 0 < (rd w 70 6) then (if 0 ≤ (w32 ((rd w 70 6) - 1)) ∧ (w32 ((rd w 70 6) - 1)) < 64 then (if (rd w 81 (w32 ((rd w 70 6) - 1))) = (-6) then Lk P0 (M0 Ls) d m_Rock_emit [.inr (.inr 72), .inl (-6)] w (fun r_ w_ => Lm P0 (M0 Ls) d m_RR_endNots 32 [some (.inr (.inr 71))] (r_.toList ++ []) w_) else Lm P0 (M0 Ls) d m_RR_endNots 55 [some (.inr (.inr 71))] [] w) else none) else Lm P0 (M0 Ls) d m_RR_endNots 55 [some (.inr (.inr 71))] [] w) := by
  rw [Lm_unf P0 (M0 Ls) sp_105 17]
  rfl
set_option maxRecDepth 100000 in
theorem E_105_32 (Ls d : Nat) (w : AW) : Lm P0 (M0 Ls) d m_RR_endNots 32 [some (.inr (.inr 71))] [] w = Lm P0 (M0 Ls) d m_RR_endNots 0 [some (.inr (.inr 71))] [] (wC (wC w 70 6 (w32 ((rd w 70 6) - 1))) 70 7 (w32 ((rd (wC w 70 6 (w32 ((rd w 70 6) - 1))) 70 7) - 1))) := by
  rw [Lm_unf P0 (M0 Ls) sp_105 15]
  rfl
set_option maxRecDepth 100000 in
theorem E_105_55 (Ls d : Nat) (w : AW) : Lm P0 (M0 Ls) d m_RR_endNots 55 [some (.inr (.inr 71))] [] w = some (none, w) := by
  rw [Lm_unf P0 (M0 Ls) sp_105 2]
  rfl
def sp_106 : Nat → Bool := fun q => [0, 20, 37, 46].contains q
set_option maxRecDepth 100000 in
theorem E_106_0 (Ls d : Nat) (w : AW) : Lm P0 (M0 Ls) d m_RR_jointHere 0 [some (.inr (.inr 71))] [] w = (if (rd w 54 3) = 1 then Lk P0 (M0 Ls) d m_Tape_isWord [.inr (.inr 55), .inr (.inr 20)] w (fun r_ w_ => Lm P0 (M0 Ls) d m_RR_jointHere 20 [some (.inr (.inr 71))] (r_.toList ++ []) w_) else (if (rd w 54 3) = 3 then (if (rd w 54 4) = 42 then some (some (.inl (-13)), w) else (if (rd w 54 4) = 43 then some (some (.inl (-11)), w) else (if (rd w 54 4) = 45 then some (some (.inl (-12)), w) else (if (rd w 54 4) = 60 then some (some (.inl (-9)), w) else (if (rd w 54 4) = 61 then some (some (.inl (-10)), w) else some (some (.inl 0), w)))))) else some (some (.inl 0), w))) := by
  rw [Lm_unf P0 (M0 Ls) sp_106 17]
  rfl
set_option maxRecDepth 100000 in
theorem E_106_20 (Ls d : Nat) (y0 : Int) (w : AW) : Lm P0 (M0 Ls) d m_RR_jointHere 20 [some (.inr (.inr 71))] [.inl y0] w = (if y0 = 0 then Lk P0 (M0 Ls) d m_Tape_isWord [.inr (.inr 55), .inr (.inr 21)] w (fun r_ w_ => Lm P0 (M0 Ls) d m_RR_jointHere 37 [some (.inr (.inr 71))] (r_.toList ++ []) w_) else Lm P0 (M0 Ls) d m_RR_jointHere 46 [some (.inr (.inr 71))] [.inl (-7)] w) := by
  rw [Lm_unf P0 (M0 Ls) sp_106 6]
  rfl
set_option maxRecDepth 100000 in
theorem E_106_37 (Ls d : Nat) (y0 : Int) (w : AW) : Lm P0 (M0 Ls) d m_RR_jointHere 37 [some (.inr (.inr 71))] [.inl y0] w = (if y0 = 0 then Lm P0 (M0 Ls) d m_RR_jointHere 46 [some (.inr (.inr 71))] [.inl 0] w else Lm P0 (M0 Ls) d m_RR_jointHere 46 [some (.inr (.inr 71))] [.inl (-8)] w) := by
  rw [Lm_unf P0 (M0 Ls) sp_106 5]
  rfl
set_option maxRecDepth 100000 in
theorem E_106_46 (Ls d : Nat) (y0 : Int) (w : AW) : Lm P0 (M0 Ls) d m_RR_jointHere 46 [some (.inr (.inr 71))] [.inl y0] w = some (some (.inl y0), w) := by
  rw [Lm_unf P0 (M0 Ls) sp_106 2]
  rfl
def sp_107 : Nat → Bool := fun q => [0, 4, 18, 21, 47, 59, 60, 65, 72].contains q
set_option maxRecDepth 100000 in
theorem E_107_0 (Ls d : Nat) (p1 : Int) (w : AW) : Lm P0 (M0 Ls) d m_RR_join 0 [some (.inr (.inr 71)), some (.inl p1), none] [] w = Lk P0 (M0 Ls) d m_RR_rank [.inl p1] w (fun r_ w_ => Lm P0 (M0 Ls) d m_RR_join 4 [some (.inr (.inr 71)), some (.inl p1), none] (r_.toList ++ []) w_) := by
  rw [Lm_unf P0 (M0 Ls) sp_107 3]
  rfl
set_option maxRecDepth 100000 in
theorem E_107_4 (Ls d : Nat) (x1 y0 : Int) (w : AW) : Lm P0 (M0 Ls) d m_RR_join 4 [some (.inr (.inr 71)), some (.inl x1), none] [.inl y0] w = (if y0 = 2 then Lm P0 (M0 Ls) d m_RR_join 18 [some (.inr (.inr 71)), some (.inl x1), some (.inl y0)] [.inl (w32 (y0 + 1)), .inr (.inr 71)] w else Lm P0 (M0 Ls) d m_RR_join 18 [some (.inr (.inr 71)), some (.inl x1), some (.inl y0)] [.inl y0, .inr (.inr 71)] w) := by
  rw [Lm_unf P0 (M0 Ls) sp_107 11]
  rfl
set_option maxRecDepth 100000 in
theorem E_107_18 (Ls d : Nat) (x1 x2 y0 : Int) (w : AW) : Lm P0 (M0 Ls) d m_RR_join 18 [some (.inr (.inr 71)), some (.inl x1), some (.inl x2)] [.inl y0, .inr (.inr 71)] w = Lk P0 (M0 Ls) d m_RR_emitDownTo [.inr (.inr 71), .inl y0] w (fun r_ w_ => Lm P0 (M0 Ls) d m_RR_join 21 [some (.inr (.inr 71)), some (.inl x1), some (.inl x2)] (r_.toList ++ []) w_) := by
  rw [Lm_unf P0 (M0 Ls) sp_107 2]
  rfl
set_option maxRecDepth 100000 in
theorem E_107_21 (Ls d : Nat) (x1 x2 : Int) (w : AW) : Lm P0 (M0 Ls) d m_RR_join 21 [some (.inr (.inr 71)), some (.inl x1), some (.inl x2)] [] w = (if x2 = 2 then (if 0 < (rd w 70 6) then (if 0 ≤ (w32 ((rd w 70 6) - 1)) ∧ (w32 ((rd w 70 6) - 1)) < 64 then Lk P0 (M0 Ls) d m_RR_rank [.inl (rd w 81 (w32 ((rd w 70 6) - 1)))] w (fun r_ w_ => Lm P0 (M0 Ls) d m_RR_join 47 [some (.inr (.inr 71)), some (.inl x1), some (.inl x2)] (r_.toList ++ []) w_) else none) else Lm P0 (M0 Ls) d m_RR_join 60 [some (.inr (.inr 71)), some (.inl x1), some (.inl x2)] [] w) else Lm P0 (M0 Ls) d m_RR_join 60 [some (.inr (.inr 71)), some (.inl x1), some (.inl x2)] [] w) := by
  rw [Lm_unf P0 (M0 Ls) sp_107 15]
  rfl
set_option maxRecDepth 100000 in
theorem E_107_47 (Ls d : Nat) (x1 x2 y0 : Int) (w : AW) : Lm P0 (M0 Ls) d m_RR_join 47 [some (.inr (.inr 71)), some (.inl x1), some (.inl x2)] [.inl y0] w = (if y0 = 2 then Lk P0 (M0 Ls) d m_Tape_wrong [.inr (.inr 55), .inl 1] w (fun r_ w_ => Lm P0 (M0 Ls) d m_RR_join 59 [some (.inr (.inr 71)), some (.inl x1), some (.inl x2)] (r_.toList ++ []) w_) else Lm P0 (M0 Ls) d m_RR_join 60 [some (.inr (.inr 71)), some (.inl x1), some (.inl x2)] [] w) := by
  rw [Lm_unf P0 (M0 Ls) sp_107 7]
  rfl
set_option maxRecDepth 100000 in
theorem E_107_59 (Ls d : Nat) (x1 x2 : Int) (w : AW) : Lm P0 (M0 Ls) d m_RR_join 59 [some (.inr (.inr 71)), some (.inl x1), some (.inl x2)] [] w = some (none, w) := by
  rw [Lm_unf P0 (M0 Ls) sp_107 2]
  rfl
set_option maxRecDepth 100000 in
theorem E_107_60 (Ls d : Nat) (x1 x2 : Int) (w : AW) : Lm P0 (M0 Ls) d m_RR_join 60 [some (.inr (.inr 71)), some (.inl x1), some (.inl x2)] [] w = Lk P0 (M0 Ls) d m_RR_push [.inr (.inr 71), .inl x1] w (fun r_ w_ => Lm P0 (M0 Ls) d m_RR_join 65 [some (.inr (.inr 71)), some (.inl x1), some (.inl x2)] (r_.toList ++ []) w_) := by
  rw [Lm_unf P0 (M0 Ls) sp_107 4]
  rfl
set_option maxRecDepth 100000 in
theorem E_107_65 (Ls d : Nat) (x1 x2 : Int) (w : AW) : Lm P0 (M0 Ls) d m_RR_join 65 [some (.inr (.inr 71)), some (.inl x1), some (.inl x2)] [] w = Lk P0 (M0 Ls) d m_Tape_advance [.inr (.inr 55)] w (fun r_ w_ => Lm P0 (M0 Ls) d m_RR_join 72 [some (.inr (.inr 71)), some (.inl x1), some (.inl x2)] (r_.toList ++ []) w_) := by
  rw [Lm_unf P0 (M0 Ls) sp_107 4]
  rfl
set_option maxRecDepth 100000 in
theorem E_107_72 (Ls d : Nat) (x1 x2 : Int) (w : AW) : Lm P0 (M0 Ls) d m_RR_join 72 [some (.inr (.inr 71)), some (.inl x1), some (.inl x2)] [] w = some (none, w) := by
  rw [Lm_unf P0 (M0 Ls) sp_107 2]
  rfl
def sp_108 : Nat → Bool := fun q => [0, 5, 26, 37, 48, 74, 81].contains q
set_option maxRecDepth 100000 in
theorem E_108_0 (Ls d : Nat) (w : AW) : Lm P0 (M0 Ls) d m_RR_closedBracket 0 [some (.inr (.inr 71))] [] w = Lk P0 (M0 Ls) d m_RR_emitDownTo [.inr (.inr 71), .inl 1] w (fun r_ w_ => Lm P0 (M0 Ls) d m_RR_closedBracket 5 [some (.inr (.inr 71))] (r_.toList ++ []) w_) := by
  rw [Lm_unf P0 (M0 Ls) sp_108 4]
  rfl
set_option maxRecDepth 100000 in
theorem E_108_5 (Ls d : Nat) (w : AW) : Lm P0 (M0 Ls) d m_RR_closedBracket 5 [some (.inr (.inr 71))] [] w = (if (rd w 70 6) = 0 then Lm P0 (M0 Ls) d m_RR_closedBracket 26 [some (.inr (.inr 71))] [] w else (if 0 ≤ (w32 ((rd w 70 6) - 1)) ∧ (w32 ((rd w 70 6) - 1)) < 64 then (if (rd w 81 (w32 ((rd w 70 6) - 1))) = 0 then Lk P0 (M0 Ls) d m_Tape_isSign [.inr (.inr 55), .inl 41] w (fun r_ w_ => Lm P0 (M0 Ls) d m_RR_closedBracket 37 [some (.inr (.inr 71))] (r_.toList ++ []) w_) else Lm P0 (M0 Ls) d m_RR_closedBracket 26 [some (.inr (.inr 71))] [] w) else none)) := by
  rw [Lm_unf P0 (M0 Ls) sp_108 16]
  rfl
set_option maxRecDepth 100000 in
theorem E_108_26 (Ls d : Nat) (w : AW) : Lm P0 (M0 Ls) d m_RR_closedBracket 26 [some (.inr (.inr 71))] [] w = some (some (.inl 0), w) := by
  rw [Lm_unf P0 (M0 Ls) sp_108 3]
  rfl
set_option maxRecDepth 100000 in
theorem E_108_37 (Ls d : Nat) (y0 : Int) (w : AW) : Lm P0 (M0 Ls) d m_RR_closedBracket 37 [some (.inr (.inr 71))] [.inl y0] w = (if y0 = 0 then Lk P0 (M0 Ls) d m_Tape_wrong [.inr (.inr 55), .inl 1] w (fun r_ w_ => Lm P0 (M0 Ls) d m_RR_closedBracket 48 [some (.inr (.inr 71))] (r_.toList ++ []) w_) else Lk P0 (M0 Ls) d m_RR_endNots [.inr (.inr 71)] (wC (wC w 70 6 (w32 ((rd w 70 6) - 1))) 70 7 (w32 ((rd (wC w 70 6 (w32 ((rd w 70 6) - 1))) 70 7) - 1))) (fun r_ w_ => Lm P0 (M0 Ls) d m_RR_closedBracket 74 [some (.inr (.inr 71))] (r_.toList ++ []) w_)) := by
  rw [Lm_unf P0 (M0 Ls) sp_108 16]
  rfl
set_option maxRecDepth 100000 in
theorem E_108_48 (Ls d : Nat) (w : AW) : Lm P0 (M0 Ls) d m_RR_closedBracket 48 [some (.inr (.inr 71))] [] w = some (some (.inl 0), w) := by
  rw [Lm_unf P0 (M0 Ls) sp_108 3]
  rfl
set_option maxRecDepth 100000 in
theorem E_108_74 (Ls d : Nat) (w : AW) : Lm P0 (M0 Ls) d m_RR_closedBracket 74 [some (.inr (.inr 71))] [] w = Lk P0 (M0 Ls) d m_Tape_advance [.inr (.inr 55)] w (fun r_ w_ => Lm P0 (M0 Ls) d m_RR_closedBracket 81 [some (.inr (.inr 71))] (r_.toList ++ []) w_) := by
  rw [Lm_unf P0 (M0 Ls) sp_108 4]
  rfl
set_option maxRecDepth 100000 in
theorem E_108_81 (Ls d : Nat) (w : AW) : Lm P0 (M0 Ls) d m_RR_closedBracket 81 [some (.inr (.inr 71))] [] w = some (some (.inl 1), w) := by
  rw [Lm_unf P0 (M0 Ls) sp_108 3]
  rfl
def sp_109 : Nat → Bool := fun q => [0, 21, 43, 56].contains q
set_option maxRecDepth 100000 in
theorem E_109_0 (Ls d : Nat) (x1 : Int) (w : AW) : Lm P0 (M0 Ls) d m_RR_emitDownTo 0 [some (.inr (.inr 71)), some (.inl x1)] [] w = (if 0 < (rd w 70 6) then (if 0 ≤ (w32 ((rd w 70 6) - 1)) ∧ (w32 ((rd w 70 6) - 1)) < 64 then Lk P0 (M0 Ls) d m_RR_rank [.inl (rd w 81 (w32 ((rd w 70 6) - 1)))] w (fun r_ w_ => Lm P0 (M0 Ls) d m_RR_emitDownTo 21 [some (.inr (.inr 71)), some (.inl x1)] (r_.toList ++ []) w_) else none) else Lm P0 (M0 Ls) d m_RR_emitDownTo 56 [some (.inr (.inr 71)), some (.inl x1)] [] w) := by
  rw [Lm_unf P0 (M0 Ls) sp_109 12]
  rfl
set_option maxRecDepth 100000 in
theorem E_109_21 (Ls d : Nat) (x1 y0 : Int) (w : AW) : Lm P0 (M0 Ls) d m_RR_emitDownTo 21 [some (.inr (.inr 71)), some (.inl x1)] [.inl y0] w = (if y0 < x1 then Lm P0 (M0 Ls) d m_RR_emitDownTo 56 [some (.inr (.inr 71)), some (.inl x1)] [] w else (if 0 ≤ (w32 ((rd w 70 6) - 1)) ∧ (w32 ((rd w 70 6) - 1)) < 64 then Lk P0 (M0 Ls) d m_Rock_emit [.inr (.inr 72), .inl (rd w 81 (w32 ((rd w 70 6) - 1)))] w (fun r_ w_ => Lm P0 (M0 Ls) d m_RR_emitDownTo 43 [some (.inr (.inr 71)), some (.inl x1)] (r_.toList ++ []) w_) else none)) := by
  rw [Lm_unf P0 (M0 Ls) sp_109 13]
  rfl
set_option maxRecDepth 100000 in
theorem E_109_43 (Ls d : Nat) (x1 : Int) (w : AW) : Lm P0 (M0 Ls) d m_RR_emitDownTo 43 [some (.inr (.inr 71)), some (.inl x1)] [] w = Lm P0 (M0 Ls) d m_RR_emitDownTo 0 [some (.inr (.inr 71)), some (.inl x1)] [] (wC w 70 6 (w32 ((rd w 70 6) - 1))) := by
  rw [Lm_unf P0 (M0 Ls) sp_109 9]
  rfl
set_option maxRecDepth 100000 in
theorem E_109_56 (Ls d : Nat) (x1 : Int) (w : AW) : Lm P0 (M0 Ls) d m_RR_emitDownTo 56 [some (.inr (.inr 71)), some (.inl x1)] [] w = some (none, w) := by
  rw [Lm_unf P0 (M0 Ls) sp_109 2]
  rfl
def sp_110 : Nat → Bool := fun q => [0, 29].contains q
set_option maxRecDepth 100000 in
theorem E_110_0 (Ls d : Nat) (p1 : Int) (w : AW) : Lm P0 (M0 Ls) d m_RR_push 0 [some (.inr (.inr 71)), some (.inl p1)] [] w = (if (rd w 70 6) < 64 then (if 0 ≤ (rd w 70 6) ∧ (rd w 70 6) < 64 then Lm P0 (M0 Ls) d m_RR_push 29 [some (.inr (.inr 71)), some (.inl p1)] [] (wC (wC w 81 (rd w 70 6) p1) 70 6 (w32 ((rd (wC w 81 (rd w 70 6) p1) 70 6) + 1))) else none) else Lm P0 (M0 Ls) d m_RR_push 29 [some (.inr (.inr 71)), some (.inl p1)] [] w) := by
  rw [Lm_unf P0 (M0 Ls) sp_110 18]
  rfl
set_option maxRecDepth 100000 in
theorem E_110_29 (Ls d : Nat) (x1 : Int) (w : AW) : Lm P0 (M0 Ls) d m_RR_push 29 [some (.inr (.inr 71)), some (.inl x1)] [] w = some (none, w) := by
  rw [Lm_unf P0 (M0 Ls) sp_110 2]
  rfl
def sp_111 : Nat → Bool := fun q => [0].contains q
set_option maxRecDepth 100000 in
theorem E_111_0 (Ls d : Nat) (p1 : Int) (w : AW) : Lm P0 (M0 Ls) d m_RR_rank 0 [some (.inl p1)] [] w = (if p1 = (-13) then some (some (.inl 4), w) else (if p1 = (-12) then some (some (.inl 3), w) else (if p1 = (-11) then some (some (.inl 3), w) else (if p1 = (-10) then some (some (.inl 2), w) else (if p1 = (-9) then some (some (.inl 2), w) else (if p1 = (-8) then some (some (.inl 1), w) else (if p1 = (-7) then some (some (.inl 1), w) else some (some (.inl 0), w)))))))) := by
  rw [Lm_unf P0 (M0 Ls) sp_111 5]
  rfl
def sp_112 : Nat → Bool := fun q => [0, 9, 30, 35, 52, 57, 74, 79, 96, 103, 104].contains q
set_option maxRecDepth 100000 in
theorem E_112_0 (Ls d : Nat) (w : AW) : Lm P0 (M0 Ls) d m_RR_factHere 0 [some (.inr (.inr 71))] [] w = Lk P0 (M0 Ls) d m_Tape_isWord [.inr (.inr 55), .inr (.inr 14)] w (fun r_ w_ => Lm P0 (M0 Ls) d m_RR_factHere 9 [some (.inr (.inr 71))] (r_.toList ++ []) w_) := by
  rw [Lm_unf P0 (M0 Ls) sp_112 5]
  rfl
set_option maxRecDepth 100000 in
theorem E_112_9 (Ls d : Nat) (y0 : Int) (w : AW) : Lm P0 (M0 Ls) d m_RR_factHere 9 [some (.inr (.inr 71))] [.inl y0] w = (if y0 = 0 then (if (rd w 70 4) = 0 then Lm P0 (M0 Ls) d m_RR_factHere 35 [some (.inr (.inr 71))] [] w else Lk P0 (M0 Ls) d m_Tape_isWord [.inr (.inr 55), .inr (.inr 15)] w (fun r_ w_ => Lm P0 (M0 Ls) d m_RR_factHere 30 [some (.inr (.inr 71))] (r_.toList ++ []) w_)) else some (some (.inl 0), w)) := by
  rw [Lm_unf P0 (M0 Ls) sp_112 9]
  rfl
set_option maxRecDepth 100000 in
theorem E_112_30 (Ls d : Nat) (y0 : Int) (w : AW) : Lm P0 (M0 Ls) d m_RR_factHere 30 [some (.inr (.inr 71))] [.inl y0] w = (if y0 = 0 then Lm P0 (M0 Ls) d m_RR_factHere 35 [some (.inr (.inr 71))] [] w else some (some (.inl 1), w)) := by
  rw [Lm_unf P0 (M0 Ls) sp_112 4]
  rfl
set_option maxRecDepth 100000 in
theorem E_112_35 (Ls d : Nat) (w : AW) : Lm P0 (M0 Ls) d m_RR_factHere 35 [some (.inr (.inr 71))] [] w = (if (rd w 70 4) = 2 then Lk P0 (M0 Ls) d m_Tape_isWord [.inr (.inr 55), .inr (.inr 16)] w (fun r_ w_ => Lm P0 (M0 Ls) d m_RR_factHere 52 [some (.inr (.inr 71))] (r_.toList ++ []) w_) else Lm P0 (M0 Ls) d m_RR_factHere 57 [some (.inr (.inr 71))] [] w) := by
  rw [Lm_unf P0 (M0 Ls) sp_112 9]
  rfl
set_option maxRecDepth 100000 in
theorem E_112_52 (Ls d : Nat) (y0 : Int) (w : AW) : Lm P0 (M0 Ls) d m_RR_factHere 52 [some (.inr (.inr 71))] [.inl y0] w = (if y0 = 0 then Lm P0 (M0 Ls) d m_RR_factHere 57 [some (.inr (.inr 71))] [] w else some (some (.inl 2), w)) := by
  rw [Lm_unf P0 (M0 Ls) sp_112 4]
  rfl
set_option maxRecDepth 100000 in
theorem E_112_57 (Ls d : Nat) (w : AW) : Lm P0 (M0 Ls) d m_RR_factHere 57 [some (.inr (.inr 71))] [] w = (if (rd w 70 4) = 1 then Lm P0 (M0 Ls) d m_RR_factHere 79 [some (.inr (.inr 71))] [] w else Lk P0 (M0 Ls) d m_Tape_isWord [.inr (.inr 55), .inr (.inr 17)] w (fun r_ w_ => Lm P0 (M0 Ls) d m_RR_factHere 74 [some (.inr (.inr 71))] (r_.toList ++ []) w_)) := by
  rw [Lm_unf P0 (M0 Ls) sp_112 9]
  rfl
set_option maxRecDepth 100000 in
theorem E_112_74 (Ls d : Nat) (y0 : Int) (w : AW) : Lm P0 (M0 Ls) d m_RR_factHere 74 [some (.inr (.inr 71))] [.inl y0] w = (if y0 = 0 then Lm P0 (M0 Ls) d m_RR_factHere 79 [some (.inr (.inr 71))] [] w else some (some (.inl 3), w)) := by
  rw [Lm_unf P0 (M0 Ls) sp_112 4]
  rfl
set_option maxRecDepth 100000 in
theorem E_112_79 (Ls d : Nat) (w : AW) : Lm P0 (M0 Ls) d m_RR_factHere 79 [some (.inr (.inr 71))] [] w = (if (rd w 70 4) = 2 then Lk P0 (M0 Ls) d m_Tape_isWord [.inr (.inr 55), .inr (.inr 18)] w (fun r_ w_ => Lm P0 (M0 Ls) d m_RR_factHere 96 [some (.inr (.inr 71))] (r_.toList ++ []) w_) else Lm P0 (M0 Ls) d m_RR_factHere 103 [some (.inr (.inr 71))] [] w) := by
  rw [Lm_unf P0 (M0 Ls) sp_112 9]
  rfl
set_option maxRecDepth 100000 in
theorem E_112_96 (Ls d : Nat) (y0 : Int) (w : AW) : Lm P0 (M0 Ls) d m_RR_factHere 96 [some (.inr (.inr 71))] [.inl y0] w = (if y0 = 0 then Lm P0 (M0 Ls) d m_RR_factHere 103 [some (.inr (.inr 71))] [] w else Lm P0 (M0 Ls) d m_RR_factHere 104 [some (.inr (.inr 71))] [.inl 4] w) := by
  rw [Lm_unf P0 (M0 Ls) sp_112 5]
  rfl
set_option maxRecDepth 100000 in
theorem E_112_103 (Ls d : Nat) (w : AW) : Lm P0 (M0 Ls) d m_RR_factHere 103 [some (.inr (.inr 71))] [] w = Lm P0 (M0 Ls) d m_RR_factHere 104 [some (.inr (.inr 71))] [.inl (-1)] w := by
  rw [Lm_unf P0 (M0 Ls) sp_112 3]
  rfl
set_option maxRecDepth 100000 in
theorem E_112_104 (Ls d : Nat) (y0 : Int) (w : AW) : Lm P0 (M0 Ls) d m_RR_factHere 104 [some (.inr (.inr 71))] [.inl y0] w = some (some (.inl y0), w) := by
  rw [Lm_unf P0 (M0 Ls) sp_112 2]
  rfl
