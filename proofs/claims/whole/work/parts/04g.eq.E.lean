def sp_21 : Nat → Bool := fun q => [0, 8, 16, 25].contains q
set_option maxRecDepth 100000 in
theorem E_21_0 (Ls d : Nat) (p1 p2 p3 : Int) (w : AW) : Lm P0 (M0 Ls) d m_E_feed 0 [some (.inr (.inr 54)), some (.inr (.inl p1)), none, some (.inr (.inl p2)), none, some (.inr (.inl p3)), none] [] w = Lk P0 (M0 Ls) d m_Tape_put [.inr (.inr 55), .inr (.inl p1)] w (fun r_ w_ => Lm P0 (M0 Ls) d m_E_feed 8 [some (.inr (.inr 54)), some (.inr (.inl p1)), none, some (.inr (.inl p2)), none, some (.inr (.inl p3)), none] (r_.toList ++ []) w_) := by
  rw [Lm_unf P0 (M0 Ls) sp_21 5]
  rfl
set_option maxRecDepth 100000 in
theorem E_21_8 (Ls d : Nat) (x1 x3 x5 : Int) (w : AW) : Lm P0 (M0 Ls) d m_E_feed 8 [some (.inr (.inr 54)), some (.inr (.inl x1)), none, some (.inr (.inl x3)), none, some (.inr (.inl x5)), none] [] w = Lk P0 (M0 Ls) d m_Tape_put [.inr (.inr 55), .inr (.inl x3)] w (fun r_ w_ => Lm P0 (M0 Ls) d m_E_feed 16 [some (.inr (.inr 54)), some (.inr (.inl x1)), none, some (.inr (.inl x3)), none, some (.inr (.inl x5)), none] (r_.toList ++ []) w_) := by
  rw [Lm_unf P0 (M0 Ls) sp_21 5]
  rfl
set_option maxRecDepth 100000 in
theorem E_21_16 (Ls d : Nat) (x1 x3 x5 : Int) (w : AW) : Lm P0 (M0 Ls) d m_E_feed 16 [some (.inr (.inr 54)), some (.inr (.inl x1)), none, some (.inr (.inl x3)), none, some (.inr (.inl x5)), none] [] w = Lk P0 (M0 Ls) d m_Tape_put [.inr (.inr 55), .inr (.inl x5)] w (fun r_ w_ => Lm P0 (M0 Ls) d m_E_feed 25 [some (.inr (.inr 54)), some (.inr (.inl x1)), none, some (.inr (.inl x3)), none, some (.inr (.inl x5)), none] (r_.toList ++ []) w_) := by
  rw [Lm_unf P0 (M0 Ls) sp_21 5]
  rfl
set_option maxRecDepth 100000 in
theorem E_21_25 (Ls d : Nat) (x1 x3 x5 : Int) (w : AW) : Lm P0 (M0 Ls) d m_E_feed 25 [some (.inr (.inr 54)), some (.inr (.inl x1)), none, some (.inr (.inl x3)), none, some (.inr (.inl x5)), none] [] w = some (some (.inl (rd w 54 1)), w) := by
  rw [Lm_unf P0 (M0 Ls) sp_21 5]
  rfl
def sp_22 : Nat → Bool := fun q => [0, 7, 29, 36, 40].contains q
set_option maxRecDepth 100000 in
theorem E_22_0 (Ls d : Nat) (w : AW) : Lm P0 (M0 Ls) d m_E_cliff 0 [some (.inr (.inr 54)), none] [] w = Lk P0 (M0 Ls) d m_RR_read [.inr (.inr 71)] w (fun r_ w_ => Lm P0 (M0 Ls) d m_E_cliff 7 [some (.inr (.inr 54)), none] (r_.toList ++ []) w_) := by
  rw [Lm_unf P0 (M0 Ls) sp_22 4]
  rfl
set_option maxRecDepth 100000 in
theorem E_22_7 (Ls d : Nat) (y0 : Int) (w : AW) : Lm P0 (M0 Ls) d m_E_cliff 7 [some (.inr (.inr 54)), none] [.inl y0] w = (if y0 = 0 then Lk P0 (M0 Ls) d m_Rock_copyFrom [.inr (.inr 58), .inr (.inr 72)] w (fun r_ w_ => Lm P0 (M0 Ls) d m_E_cliff 29 [some (.inr (.inr 54)), some (.inl y0)] (r_.toList ++ []) w_) else Lm P0 (M0 Ls) d m_E_cliff 40 [some (.inr (.inr 54)), some (.inl y0)] [] w) := by
  rw [Lm_unf P0 (M0 Ls) sp_22 11]
  rfl
set_option maxRecDepth 100000 in
theorem E_22_29 (Ls d : Nat) (x1 : Int) (w : AW) : Lm P0 (M0 Ls) d m_E_cliff 29 [some (.inr (.inr 54)), some (.inl x1)] [] w = Lk P0 (M0 Ls) d m_State_empty [.inr (.inr 57)] w (fun r_ w_ => Lm P0 (M0 Ls) d m_E_cliff 36 [some (.inr (.inr 54)), some (.inl x1)] (r_.toList ++ []) w_) := by
  rw [Lm_unf P0 (M0 Ls) sp_22 4]
  rfl
set_option maxRecDepth 100000 in
theorem E_22_36 (Ls d : Nat) (x1 : Int) (w : AW) : Lm P0 (M0 Ls) d m_E_cliff 36 [some (.inr (.inr 54)), some (.inl x1)] [] w = Lk P0 (M0 Ls) d m_E_rockChanged [.inr (.inr 54)] w (fun r_ w_ => Lm P0 (M0 Ls) d m_E_cliff 40 [some (.inr (.inr 54)), some (.inl x1)] (r_.toList ++ []) w_) := by
  rw [Lm_unf P0 (M0 Ls) sp_22 3]
  rfl
set_option maxRecDepth 100000 in
theorem E_22_40 (Ls d : Nat) (x1 : Int) (w : AW) : Lm P0 (M0 Ls) d m_E_cliff 40 [some (.inr (.inr 54)), some (.inl x1)] [] w = some (some (.inl x1), w) := by
  rw [Lm_unf P0 (M0 Ls) sp_22 3]
  rfl
def sp_23 : Nat → Bool := fun q => [0, 17, 43, 50].contains q
set_option maxRecDepth 100000 in
theorem E_23_0 (Ls d : Nat) (w : AW) : Lm P0 (M0 Ls) d m_E_draft 0 [some (.inr (.inr 54)), none] [] w = Lk P0 (M0 Ls) d m_DR_read [.inr (.inr 83), .inl (rd w 57 0)] w (fun r_ w_ => Lm P0 (M0 Ls) d m_E_draft 17 [some (.inr (.inr 54)), none] (r_.toList ++ []) w_) := by
  rw [Lm_unf P0 (M0 Ls) sp_23 8]
  rfl
set_option maxRecDepth 100000 in
theorem E_23_17 (Ls d : Nat) (y0 : Int) (w : AW) : Lm P0 (M0 Ls) d m_E_draft 17 [some (.inr (.inr 54)), none] [.inl y0] w = (if y0 = 0 then Lk P0 (M0 Ls) d m_State_takeTune [.inr (.inr 57), .inr (.inr 84), .inl (rd w 82 2)] w (fun r_ w_ => Lm P0 (M0 Ls) d m_E_draft 43 [some (.inr (.inr 54)), some (.inl y0)] (r_.toList ++ []) w_) else Lm P0 (M0 Ls) d m_E_draft 50 [some (.inr (.inr 54)), some (.inl y0)] [] w) := by
  rw [Lm_unf P0 (M0 Ls) sp_23 13]
  rfl
set_option maxRecDepth 100000 in
theorem E_23_43 (Ls d : Nat) (x1 : Int) (w : AW) : Lm P0 (M0 Ls) d m_E_draft 43 [some (.inr (.inr 54)), some (.inl x1)] [] w = Lk P0 (M0 Ls) d m_Way_forgetMend [.inr (.inr 99)] w (fun r_ w_ => Lm P0 (M0 Ls) d m_E_draft 50 [some (.inr (.inr 54)), some (.inl x1)] (r_.toList ++ []) w_) := by
  rw [Lm_unf P0 (M0 Ls) sp_23 4]
  rfl
set_option maxRecDepth 100000 in
theorem E_23_50 (Ls d : Nat) (x1 : Int) (w : AW) : Lm P0 (M0 Ls) d m_E_draft 50 [some (.inr (.inr 54)), some (.inl x1)] [] w = some (some (.inl x1), w) := by
  rw [Lm_unf P0 (M0 Ls) sp_23 3]
  rfl
def sp_24 : Nat → Bool := fun q => [0, 32, 42, 49].contains q
set_option maxRecDepth 100000 in
theorem E_24_0 (Ls d : Nat) (p1 : Int) (w : AW) : Lm P0 (M0 Ls) d m_E_sing 0 [some (.inr (.inr 54)), some (.inl p1)] [] w = (if p1 < (-1) then Lm P0 (M0 Ls) d m_E_sing 32 [some (.inr (.inr 54)), some (.inl p1)] [] w else (if p1 < (rd w 57 0) then (if (rd w 56 2) < 200 then Lk P0 (M0 Ls) d m_State_append [.inr (.inr 57), .inl p1] w (fun r_ w_ => Lm P0 (M0 Ls) d m_E_sing 42 [some (.inr (.inr 54)), some (.inl p1)] (r_.toList ++ []) w_) else Lm P0 (M0 Ls) d m_E_sing 32 [some (.inr (.inr 54)), some (.inl p1)] [] w) else Lm P0 (M0 Ls) d m_E_sing 32 [some (.inr (.inr 54)), some (.inl p1)] [] w)) := by
  rw [Lm_unf P0 (M0 Ls) sp_24 19]
  rfl
set_option maxRecDepth 100000 in
theorem E_24_32 (Ls d : Nat) (x1 : Int) (w : AW) : Lm P0 (M0 Ls) d m_E_sing 32 [some (.inr (.inr 54)), some (.inl x1)] [] w = some (some (.inl (-1)), w) := by
  rw [Lm_unf P0 (M0 Ls) sp_24 3]
  rfl
set_option maxRecDepth 100000 in
theorem E_24_42 (Ls d : Nat) (x1 : Int) (w : AW) : Lm P0 (M0 Ls) d m_E_sing 42 [some (.inr (.inr 54)), some (.inl x1)] [] w = Lk P0 (M0 Ls) d m_Way_forgetMend [.inr (.inr 99)] w (fun r_ w_ => Lm P0 (M0 Ls) d m_E_sing 49 [some (.inr (.inr 54)), some (.inl x1)] (r_.toList ++ []) w_) := by
  rw [Lm_unf P0 (M0 Ls) sp_24 4]
  rfl
set_option maxRecDepth 100000 in
theorem E_24_49 (Ls d : Nat) (x1 : Int) (w : AW) : Lm P0 (M0 Ls) d m_E_sing 49 [some (.inr (.inr 54)), some (.inl x1)] [] w = some (some (.inl (rd w 56 2)), w) := by
  rw [Lm_unf P0 (M0 Ls) sp_24 5]
  rfl
def sp_25 : Nat → Bool := fun q => [0, 8].contains q
set_option maxRecDepth 100000 in
theorem E_25_0 (Ls d : Nat) (p1 : Int) (w : AW) : Lm P0 (M0 Ls) d m_E_note 0 [some (.inr (.inr 54)), some (.inl p1)] [] w = Lk P0 (M0 Ls) d m_State_sung [.inr (.inr 57), .inl p1] w (fun r_ w_ => Lm P0 (M0 Ls) d m_E_note 8 [some (.inr (.inr 54)), some (.inl p1)] (r_.toList ++ []) w_) := by
  rw [Lm_unf P0 (M0 Ls) sp_25 5]
  rfl
set_option maxRecDepth 100000 in
theorem E_25_8 (Ls d : Nat) (x1 y0 : Int) (w : AW) : Lm P0 (M0 Ls) d m_E_note 8 [some (.inr (.inr 54)), some (.inl x1)] [.inl y0] w = some (some (.inl y0), w) := by
  rw [Lm_unf P0 (M0 Ls) sp_25 2]
  rfl
def sp_26 : Nat → Bool := fun q => [0, 9].contains q
set_option maxRecDepth 100000 in
theorem E_26_0 (Ls d : Nat) (p1 p2 : Int) (w : AW) : Lm P0 (M0 Ls) d m_E_voice 0 [some (.inr (.inr 54)), some (.inl p1), some (.inl p2), none] [] w = Lk P0 (M0 Ls) d m_State_heard [.inr (.inr 57), .inl p1, .inl p2] w (fun r_ w_ => Lm P0 (M0 Ls) d m_E_voice 9 [some (.inr (.inr 54)), some (.inl p1), some (.inl p2), none] (r_.toList ++ []) w_) := by
  rw [Lm_unf P0 (M0 Ls) sp_26 6]
  rfl
set_option maxRecDepth 100000 in
theorem E_26_9 (Ls d : Nat) (x1 x2 y0 : Int) (w : AW) : Lm P0 (M0 Ls) d m_E_voice 9 [some (.inr (.inr 54)), some (.inl x1), some (.inl x2), none] [.inl y0] w = (if y0 = (-1000000) then none else some (some (.inl y0), w)) := by
  rw [Lm_unf P0 (M0 Ls) sp_26 7]
  rfl
def sp_27 : Nat → Bool := fun q => [0, 4, 5, 11, 34].contains q
set_option maxRecDepth 100000 in
theorem E_27_0 (Ls d : Nat) (w : AW) : Lm P0 (M0 Ls) d m_E_end 0 [some (.inr (.inr 54)), none, none] [] w = Lk P0 (M0 Ls) d m_E_lastBeat [.inr (.inr 54)] w (fun r_ w_ => Lm P0 (M0 Ls) d m_E_end 4 [some (.inr (.inr 54)), none, none] (r_.toList ++ []) w_) := by
  rw [Lm_unf P0 (M0 Ls) sp_27 3]
  rfl
set_option maxRecDepth 100000 in
theorem E_27_4 (Ls d : Nat) (y0 : Int) (w : AW) : Lm P0 (M0 Ls) d m_E_end 4 [some (.inr (.inr 54)), none, none] [.inl y0] w = Lm P0 (M0 Ls) d m_E_end 5 [some (.inr (.inr 54)), some (.inl y0), none] [] w := by
  rw [Lm_unf P0 (M0 Ls) sp_27 3]
  rfl
set_option maxRecDepth 100000 in
theorem E_27_5 (Ls d : Nat) (x1 : Int) (u2 : Option AV) (w : AW) : Lm P0 (M0 Ls) d m_E_end 5 [some (.inr (.inr 54)), some (.inl x1), u2] [] w = (if x1 < 0 then some (some (.inl (-1)), w) else Lm P0 (M0 Ls) d m_E_end 11 [some (.inr (.inr 54)), some (.inl x1), some (.inl 0)] [] w) := by
  rw [Lm_unf P0 (M0 Ls) sp_27 6]
  rfl
set_option maxRecDepth 100000 in
theorem E_27_11 (Ls d : Nat) (x1 x2 : Int) (w : AW) : Lm P0 (M0 Ls) d m_E_end 11 [some (.inr (.inr 54)), some (.inl x1), some (.inl x2)] [] w = (if (rd w 57 2) < x2 then Lm P0 (M0 Ls) d m_E_end 5 [some (.inr (.inr 54)), some (.inl (w32 (x1 + (-1)))), some (.inl x2)] [] w else Lk P0 (M0 Ls) d m_State_heard [.inr (.inr 57), .inl x2, .inl x1] w (fun r_ w_ => Lm P0 (M0 Ls) d m_E_end 34 [some (.inr (.inr 54)), some (.inl x1), some (.inl x2)] (r_.toList ++ []) w_)) := by
  rw [Lm_unf P0 (M0 Ls) sp_27 12]
  rfl
set_option maxRecDepth 100000 in
theorem E_27_34 (Ls d : Nat) (x1 x2 y0 : Int) (w : AW) : Lm P0 (M0 Ls) d m_E_end 34 [some (.inr (.inr 54)), some (.inl x1), some (.inl x2)] [.inl y0] w = (if y0 = (-1000000) then Lm P0 (M0 Ls) d m_E_end 11 [some (.inr (.inr 54)), some (.inl x1), some (.inl (w32 (x2 + 1)))] [] w else some (some (.inl x1), w)) := by
  rw [Lm_unf P0 (M0 Ls) sp_27 6]
  rfl
def sp_28 : Nat → Bool := fun q => [0, 9, 15, 18, 28, 50].contains q
set_option maxRecDepth 100000 in
theorem E_28_0 (Ls d : Nat) (p1 : Int) (w : AW) : Lm P0 (M0 Ls) d m_E_clash 0 [some (.inr (.inr 54)), some (.inl p1), none, none, none] [] w = (if p1 < 0 then Lm P0 (M0 Ls) d m_E_clash 9 [some (.inr (.inr 54)), some (.inl p1), none, none, none] [] w else (if 4 < p1 then Lm P0 (M0 Ls) d m_E_clash 9 [some (.inr (.inr 54)), some (.inl p1), none, none, none] [] w else Lk P0 (M0 Ls) d m_E_lastBeat [.inr (.inr 54)] w (fun r_ w_ => Lm P0 (M0 Ls) d m_E_clash 15 [some (.inr (.inr 54)), some (.inl p1), none, none, none] (r_.toList ++ []) w_))) := by
  rw [Lm_unf P0 (M0 Ls) sp_28 8]
  rfl
set_option maxRecDepth 100000 in
theorem E_28_9 (Ls d : Nat) (x1 : Int) (w : AW) : Lm P0 (M0 Ls) d m_E_clash 9 [some (.inr (.inr 54)), some (.inl x1), none, none, none] [] w = some (some (.inl (-1)), w) := by
  rw [Lm_unf P0 (M0 Ls) sp_28 3]
  rfl
set_option maxRecDepth 100000 in
theorem E_28_15 (Ls d : Nat) (x1 y0 : Int) (w : AW) : Lm P0 (M0 Ls) d m_E_clash 15 [some (.inr (.inr 54)), some (.inl x1), none, none, none] [.inl y0] w = Lm P0 (M0 Ls) d m_E_clash 18 [some (.inr (.inr 54)), some (.inl x1), some (.inl y0), some (.inl 0), none] [] w := by
  rw [Lm_unf P0 (M0 Ls) sp_28 5]
  rfl
set_option maxRecDepth 100000 in
theorem E_28_18 (Ls d : Nat) (x1 x2 x3 : Int) (u4 : Option AV) (w : AW) : Lm P0 (M0 Ls) d m_E_clash 18 [some (.inr (.inr 54)), some (.inl x1), some (.inl x2), some (.inl x3), u4] [] w = (if x2 < x3 then some (some (.inl (-1)), w) else Lk P0 (M0 Ls) d m_E_faultInBeat [.inr (.inr 54), .inl x3] w (fun r_ w_ => Lm P0 (M0 Ls) d m_E_clash 28 [some (.inr (.inr 54)), some (.inl x1), some (.inl x2), some (.inl x3), u4] (r_.toList ++ []) w_)) := by
  rw [Lm_unf P0 (M0 Ls) sp_28 7]
  rfl
set_option maxRecDepth 100000 in
theorem E_28_28 (Ls d : Nat) (x1 x2 x3 y0 : Int) (u4 : Option AV) (w : AW) : Lm P0 (M0 Ls) d m_E_clash 28 [some (.inr (.inr 54)), some (.inl x1), some (.inl x2), some (.inl x3), u4] [.inl y0] w = (if y0 = (-1) then Lm P0 (M0 Ls) d m_E_clash 18 [some (.inr (.inr 54)), some (.inl x1), some (.inl x2), some (.inl (w32 (x3 + 1))), some (.inl y0)] [] w else (if x1 = 0 then Lm P0 (M0 Ls) d m_E_clash 50 [some (.inr (.inr 54)), some (.inl x1), some (.inl x2), some (.inl x3), some (.inl y0)] [.inl x3] w else Lk P0 (M0 Ls) d m_Judge_partOfFault [.inl y0, .inl x1] w (fun r_ w_ => Lm P0 (M0 Ls) d m_E_clash 50 [some (.inr (.inr 54)), some (.inl x1), some (.inl x2), some (.inl x3), some (.inl y0)] (r_.toList ++ []) w_))) := by
  rw [Lm_unf P0 (M0 Ls) sp_28 10]
  rfl
set_option maxRecDepth 100000 in
theorem E_28_50 (Ls d : Nat) (x1 x2 x3 x4 y0 : Int) (w : AW) : Lm P0 (M0 Ls) d m_E_clash 50 [some (.inr (.inr 54)), some (.inl x1), some (.inl x2), some (.inl x3), some (.inl x4)] [.inl y0] w = some (some (.inl y0), w) := by
  rw [Lm_unf P0 (M0 Ls) sp_28 2]
  rfl
def sp_29 : Nat → Bool := fun q => [0, 6, 9, 19, 26].contains q
set_option maxRecDepth 100000 in
theorem E_29_0 (Ls d : Nat) (w : AW) : Lm P0 (M0 Ls) d m_E_clashes 0 [some (.inr (.inr 54)), none, none, none] [] w = Lk P0 (M0 Ls) d m_E_lastBeat [.inr (.inr 54)] w (fun r_ w_ => Lm P0 (M0 Ls) d m_E_clashes 6 [some (.inr (.inr 54)), some (.inl 0), none, none] (r_.toList ++ []) w_) := by
  rw [Lm_unf P0 (M0 Ls) sp_29 5]
  rfl
set_option maxRecDepth 100000 in
theorem E_29_6 (Ls d : Nat) (x1 y0 : Int) (w : AW) : Lm P0 (M0 Ls) d m_E_clashes 6 [some (.inr (.inr 54)), some (.inl x1), none, none] [.inl y0] w = Lm P0 (M0 Ls) d m_E_clashes 9 [some (.inr (.inr 54)), some (.inl x1), some (.inl y0), some (.inl 0)] [] w := by
  rw [Lm_unf P0 (M0 Ls) sp_29 5]
  rfl
set_option maxRecDepth 100000 in
theorem E_29_9 (Ls d : Nat) (x1 x2 x3 : Int) (w : AW) : Lm P0 (M0 Ls) d m_E_clashes 9 [some (.inr (.inr 54)), some (.inl x1), some (.inl x2), some (.inl x3)] [] w = (if x2 < x3 then some (some (.inl x1), w) else Lk P0 (M0 Ls) d m_E_faultInBeat [.inr (.inr 54), .inl x3] w (fun r_ w_ => Lm P0 (M0 Ls) d m_E_clashes 19 [some (.inr (.inr 54)), some (.inl x1), some (.inl x2), some (.inl x3)] (r_.toList ++ []) w_)) := by
  rw [Lm_unf P0 (M0 Ls) sp_29 7]
  rfl
set_option maxRecDepth 100000 in
theorem E_29_19 (Ls d : Nat) (x1 x2 x3 y0 : Int) (w : AW) : Lm P0 (M0 Ls) d m_E_clashes 19 [some (.inr (.inr 54)), some (.inl x1), some (.inl x2), some (.inl x3)] [.inl y0] w = (if y0 = (-1) then Lm P0 (M0 Ls) d m_E_clashes 26 [some (.inr (.inr 54)), some (.inl x1), some (.inl x2), some (.inl x3)] [] w else Lm P0 (M0 Ls) d m_E_clashes 26 [some (.inr (.inr 54)), some (.inl (w32 (x1 + 1))), some (.inl x2), some (.inl x3)] [] w) := by
  rw [Lm_unf P0 (M0 Ls) sp_29 5]
  rfl
set_option maxRecDepth 100000 in
theorem E_29_26 (Ls d : Nat) (x1 x2 x3 : Int) (w : AW) : Lm P0 (M0 Ls) d m_E_clashes 26 [some (.inr (.inr 54)), some (.inl x1), some (.inl x2), some (.inl x3)] [] w = Lm P0 (M0 Ls) d m_E_clashes 9 [some (.inr (.inr 54)), some (.inl x1), some (.inl x2), some (.inl (w32 (x3 + 1)))] [] w := by
  rw [Lm_unf P0 (M0 Ls) sp_29 4]
  rfl
def sp_30 : Nat → Bool := fun q => [0, 30, 46].contains q
set_option maxRecDepth 100000 in
theorem E_30_0 (Ls d : Nat) (p1 p2 : Int) (w : AW) : Lm P0 (M0 Ls) d m_E_fix 0 [some (.inr (.inr 54)), some (.inl p1), some (.inl p2)] [] w = (if p1 < 0 then Lm P0 (M0 Ls) d m_E_fix 30 [some (.inr (.inr 54)), some (.inl p1), some (.inl p2)] [] w else (if p1 < 60 then (if p2 < (-2) then Lm P0 (M0 Ls) d m_E_fix 30 [some (.inr (.inr 54)), some (.inl p1), some (.inl p2)] [] w else (if p2 < (rd w 57 0) then (if 0 ≤ p1 ∧ p1 < 60 then Lk P0 (M0 Ls) d m_E_fixedChanged [.inr (.inr 54)] (wC w 68 p1 p2) (fun r_ w_ => Lm P0 (M0 Ls) d m_E_fix 46 [some (.inr (.inr 54)), some (.inl p1), some (.inl p2)] (r_.toList ++ []) w_) else none) else Lm P0 (M0 Ls) d m_E_fix 30 [some (.inr (.inr 54)), some (.inl p1), some (.inl p2)] [] w)) else Lm P0 (M0 Ls) d m_E_fix 30 [some (.inr (.inr 54)), some (.inl p1), some (.inl p2)] [] w)) := by
  rw [Lm_unf P0 (M0 Ls) sp_30 23]
  rfl
set_option maxRecDepth 100000 in
theorem E_30_30 (Ls d : Nat) (x1 x2 : Int) (w : AW) : Lm P0 (M0 Ls) d m_E_fix 30 [some (.inr (.inr 54)), some (.inl x1), some (.inl x2)] [] w = some (some (.inl 0), w) := by
  rw [Lm_unf P0 (M0 Ls) sp_30 3]
  rfl
set_option maxRecDepth 100000 in
theorem E_30_46 (Ls d : Nat) (x1 x2 : Int) (w : AW) : Lm P0 (M0 Ls) d m_E_fix 46 [some (.inr (.inr 54)), some (.inl x1), some (.inl x2)] [] w = some (some (.inl 1), w) := by
  rw [Lm_unf P0 (M0 Ls) sp_30 3]
  rfl
def sp_31 : Nat → Bool := fun q => [0, 7, 21].contains q
set_option maxRecDepth 100000 in
theorem E_31_0 (Ls d : Nat) (w : AW) : Lm P0 (M0 Ls) d m_E_depth 0 [some (.inr (.inr 54))] [] w = Lk P0 (M0 Ls) d m_Tb_areThere [.inr (.inr 95)] w (fun r_ w_ => Lm P0 (M0 Ls) d m_E_depth 7 [some (.inr (.inr 54))] (r_.toList ++ []) w_) := by
  rw [Lm_unf P0 (M0 Ls) sp_31 4]
  rfl
set_option maxRecDepth 100000 in
theorem E_31_7 (Ls d : Nat) (y0 : Int) (w : AW) : Lm P0 (M0 Ls) d m_E_depth 7 [some (.inr (.inr 54))] [.inl y0] w = (if y0 = 0 then Lm P0 (M0 Ls) d m_E_depth 21 [some (.inr (.inr 54))] [.inl (-1)] w else Lm P0 (M0 Ls) d m_E_depth 21 [some (.inr (.inr 54))] [.inl (rd w 94 7)] w) := by
  rw [Lm_unf P0 (M0 Ls) sp_31 7]
  rfl
set_option maxRecDepth 100000 in
theorem E_31_21 (Ls d : Nat) (y0 : Int) (w : AW) : Lm P0 (M0 Ls) d m_E_depth 21 [some (.inr (.inr 54))] [.inl y0] w = some (some (.inl y0), w) := by
  rw [Lm_unf P0 (M0 Ls) sp_31 2]
  rfl
def sp_32 : Nat → Bool := fun q => [0, 28, 31, 44].contains q
set_option maxRecDepth 100000 in
theorem E_32_0 (Ls d : Nat) (p1 p2 : Int) (w : AW) : Lm P0 (M0 Ls) d m_E_many 0 [some (.inr (.inr 54)), some (.inl p1), some (.inl p2)] [] w = (if p2 < 0 then Lm P0 (M0 Ls) d m_E_many 31 [some (.inr (.inr 54)), some (.inl p1), some (.inl p2)] [] w else (if 7 < p2 then Lm P0 (M0 Ls) d m_E_many 31 [some (.inr (.inr 54)), some (.inl p1), some (.inl p2)] [] w else (if p1 < 1 then Lm P0 (M0 Ls) d m_E_many 31 [some (.inr (.inr 54)), some (.inl p1), some (.inl p2)] [] w else (if 60 < p1 then Lm P0 (M0 Ls) d m_E_many 31 [some (.inr (.inr 54)), some (.inl p1), some (.inl p2)] [] w else Lk P0 (M0 Ls) d m_Tb_ready [.inr (.inr 95)] w (fun r_ w_ => Lm P0 (M0 Ls) d m_E_many 28 [some (.inr (.inr 54)), some (.inl p1), some (.inl p2)] (r_.toList ++ []) w_))))) := by
  rw [Lm_unf P0 (M0 Ls) sp_32 15]
  rfl
set_option maxRecDepth 100000 in
theorem E_32_28 (Ls d : Nat) (x1 x2 y0 : Int) (w : AW) : Lm P0 (M0 Ls) d m_E_many 28 [some (.inr (.inr 54)), some (.inl x1), some (.inl x2)] [.inl y0] w = (if y0 = 0 then Lm P0 (M0 Ls) d m_E_many 31 [some (.inr (.inr 54)), some (.inl x1), some (.inl x2)] [] w else Lk P0 (M0 Ls) d m_Tally_nineDigits [.inr (.inr 97), .inl x1, .inl x2] w (fun r_ w_ => Lm P0 (M0 Ls) d m_E_many 44 [some (.inr (.inr 54)), some (.inl x1), some (.inl x2)] (r_.toList ++ []) w_)) := by
  rw [Lm_unf P0 (M0 Ls) sp_32 7]
  rfl
set_option maxRecDepth 100000 in
theorem E_32_31 (Ls d : Nat) (x1 x2 : Int) (w : AW) : Lm P0 (M0 Ls) d m_E_many 31 [some (.inr (.inr 54)), some (.inl x1), some (.inl x2)] [] w = some (some (.inr (.inl (-1))), w) := by
  rw [Lm_unf P0 (M0 Ls) sp_32 3]
  rfl
set_option maxRecDepth 100000 in
theorem E_32_44 (Ls d : Nat) (x1 x2 y0 : Int) (w : AW) : Lm P0 (M0 Ls) d m_E_many 44 [some (.inr (.inr 54)), some (.inl x1), some (.inl x2)] [.inr (.inl y0)] w = some (some (.inr (.inl y0)), w) := by
  rw [Lm_unf P0 (M0 Ls) sp_32 2]
  rfl
def sp_33 : Nat → Bool := fun q => [0, 5, 16, 20].contains q
set_option maxRecDepth 100000 in
theorem E_33_0 (Ls d : Nat) (p1 : Int) (w : AW) : Lm P0 (M0 Ls) d m_E_least 0 [some (.inr (.inr 54)), some (.inl p1)] [] w = Lk P0 (M0 Ls) d m_E_canTellLeast [.inr (.inr 54), .inl p1] w (fun r_ w_ => Lm P0 (M0 Ls) d m_E_least 5 [some (.inr (.inr 54)), some (.inl p1)] (r_.toList ++ []) w_) := by
  rw [Lm_unf P0 (M0 Ls) sp_33 4]
  rfl
set_option maxRecDepth 100000 in
theorem E_33_5 (Ls d : Nat) (x1 y0 : Int) (w : AW) : Lm P0 (M0 Ls) d m_E_least 5 [some (.inr (.inr 54)), some (.inl x1)] [.inl y0] w = (if y0 = 0 then Lm P0 (M0 Ls) d m_E_least 20 [some (.inr (.inr 54)), some (.inl x1)] [.inl (-1)] w else Lk P0 (M0 Ls) d m_Way_leastMotion [.inr (.inr 99), .inl x1] w (fun r_ w_ => Lm P0 (M0 Ls) d m_E_least 16 [some (.inr (.inr 54)), some (.inl x1)] (r_.toList ++ []) w_)) := by
  rw [Lm_unf P0 (M0 Ls) sp_33 6]
  rfl
set_option maxRecDepth 100000 in
theorem E_33_16 (Ls d : Nat) (x1 y0 : Int) (w : AW) : Lm P0 (M0 Ls) d m_E_least 16 [some (.inr (.inr 54)), some (.inl x1)] [.inl y0] w = Lm P0 (M0 Ls) d m_E_least 20 [some (.inr (.inr 54)), some (.inl x1)] [.inl y0] w := by
  rw [Lm_unf P0 (M0 Ls) sp_33 3]
  rfl
set_option maxRecDepth 100000 in
theorem E_33_20 (Ls d : Nat) (x1 y0 : Int) (w : AW) : Lm P0 (M0 Ls) d m_E_least 20 [some (.inr (.inr 54)), some (.inl x1)] [.inl y0] w = some (some (.inl y0), w) := by
  rw [Lm_unf P0 (M0 Ls) sp_33 2]
  rfl
def sp_34 : Nat → Bool := fun q => [0, 14, 25, 29, 40].contains q
set_option maxRecDepth 100000 in
theorem E_34_0 (Ls d : Nat) (p1 p2 : Int) (w : AW) : Lm P0 (M0 Ls) d m_E_leastAt 0 [some (.inr (.inr 54)), some (.inl p1), some (.inl p2)] [] w = (if p2 < 0 then Lm P0 (M0 Ls) d m_E_leastAt 29 [some (.inr (.inr 54)), some (.inl p1), some (.inl p2)] [] w else (if p2 < p1 then Lk P0 (M0 Ls) d m_E_canTellLeast [.inr (.inr 54), .inl p1] w (fun r_ w_ => Lm P0 (M0 Ls) d m_E_leastAt 14 [some (.inr (.inr 54)), some (.inl p1), some (.inl p2)] (r_.toList ++ []) w_) else Lm P0 (M0 Ls) d m_E_leastAt 29 [some (.inr (.inr 54)), some (.inl p1), some (.inl p2)] [] w)) := by
  rw [Lm_unf P0 (M0 Ls) sp_34 9]
  rfl
set_option maxRecDepth 100000 in
theorem E_34_14 (Ls d : Nat) (x1 x2 y0 : Int) (w : AW) : Lm P0 (M0 Ls) d m_E_leastAt 14 [some (.inr (.inr 54)), some (.inl x1), some (.inl x2)] [.inl y0] w = (if y0 = 0 then Lm P0 (M0 Ls) d m_E_leastAt 29 [some (.inr (.inr 54)), some (.inl x1), some (.inl x2)] [] w else Lk P0 (M0 Ls) d m_Way_leastMotion [.inr (.inr 99), .inl x1] w (fun r_ w_ => Lm P0 (M0 Ls) d m_E_leastAt 25 [some (.inr (.inr 54)), some (.inl x1), some (.inl x2)] (r_.toList ++ []) w_)) := by
  rw [Lm_unf P0 (M0 Ls) sp_34 6]
  rfl
set_option maxRecDepth 100000 in
theorem E_34_25 (Ls d : Nat) (x1 x2 y0 : Int) (w : AW) : Lm P0 (M0 Ls) d m_E_leastAt 25 [some (.inr (.inr 54)), some (.inl x1), some (.inl x2)] [.inl y0] w = (if y0 = (-1) then Lm P0 (M0 Ls) d m_E_leastAt 29 [some (.inr (.inr 54)), some (.inl x1), some (.inl x2)] [] w else Lk P0 (M0 Ls) d m_Way_leastNote [.inr (.inr 99), .inl x2] w (fun r_ w_ => Lm P0 (M0 Ls) d m_E_leastAt 40 [some (.inr (.inr 54)), some (.inl x1), some (.inl x2)] (r_.toList ++ []) w_)) := by
  rw [Lm_unf P0 (M0 Ls) sp_34 7]
  rfl
set_option maxRecDepth 100000 in
theorem E_34_29 (Ls d : Nat) (x1 x2 : Int) (w : AW) : Lm P0 (M0 Ls) d m_E_leastAt 29 [some (.inr (.inr 54)), some (.inl x1), some (.inl x2)] [] w = some (some (.inl (-2)), w) := by
  rw [Lm_unf P0 (M0 Ls) sp_34 3]
  rfl
set_option maxRecDepth 100000 in
theorem E_34_40 (Ls d : Nat) (x1 x2 y0 : Int) (w : AW) : Lm P0 (M0 Ls) d m_E_leastAt 40 [some (.inr (.inr 54)), some (.inl x1), some (.inl x2)] [.inl y0] w = some (some (.inl y0), w) := by
  rw [Lm_unf P0 (M0 Ls) sp_34 2]
  rfl
def sp_35 : Nat → Bool := fun q => [0, 7, 18, 22].contains q
set_option maxRecDepth 100000 in
theorem E_35_0 (Ls d : Nat) (p1 : Int) (w : AW) : Lm P0 (M0 Ls) d m_E_endless 0 [some (.inr (.inr 54)), some (.inl p1)] [] w = Lk P0 (M0 Ls) d m_Tb_ready [.inr (.inr 95)] w (fun r_ w_ => Lm P0 (M0 Ls) d m_E_endless 7 [some (.inr (.inr 54)), some (.inl p1)] (r_.toList ++ []) w_) := by
  rw [Lm_unf P0 (M0 Ls) sp_35 4]
  rfl
set_option maxRecDepth 100000 in
theorem E_35_7 (Ls d : Nat) (x1 y0 : Int) (w : AW) : Lm P0 (M0 Ls) d m_E_endless 7 [some (.inr (.inr 54)), some (.inl x1)] [.inl y0] w = (if y0 = 0 then Lm P0 (M0 Ls) d m_E_endless 22 [some (.inr (.inr 54)), some (.inl x1)] [.inl (-1)] w else Lk P0 (M0 Ls) d m_Fv_noteAt [.inr (.inr 105), .inl x1] w (fun r_ w_ => Lm P0 (M0 Ls) d m_E_endless 18 [some (.inr (.inr 54)), some (.inl x1)] (r_.toList ++ []) w_)) := by
  rw [Lm_unf P0 (M0 Ls) sp_35 6]
  rfl
set_option maxRecDepth 100000 in
theorem E_35_18 (Ls d : Nat) (x1 y0 : Int) (w : AW) : Lm P0 (M0 Ls) d m_E_endless 18 [some (.inr (.inr 54)), some (.inl x1)] [.inl y0] w = Lm P0 (M0 Ls) d m_E_endless 22 [some (.inr (.inr 54)), some (.inl x1)] [.inl y0] w := by
  rw [Lm_unf P0 (M0 Ls) sp_35 3]
  rfl
set_option maxRecDepth 100000 in
theorem E_35_22 (Ls d : Nat) (x1 y0 : Int) (w : AW) : Lm P0 (M0 Ls) d m_E_endless 22 [some (.inr (.inr 54)), some (.inl x1)] [.inl y0] w = some (some (.inl y0), w) := by
  rw [Lm_unf P0 (M0 Ls) sp_35 2]
  rfl
def sp_36 : Nat → Bool := fun q => [0, 7, 17, 21].contains q
set_option maxRecDepth 100000 in
theorem E_36_0 (Ls d : Nat) (w : AW) : Lm P0 (M0 Ls) d m_E_longest 0 [some (.inr (.inr 54))] [] w = Lk P0 (M0 Ls) d m_Tb_ready [.inr (.inr 95)] w (fun r_ w_ => Lm P0 (M0 Ls) d m_E_longest 7 [some (.inr (.inr 54))] (r_.toList ++ []) w_) := by
  rw [Lm_unf P0 (M0 Ls) sp_36 4]
  rfl
set_option maxRecDepth 100000 in
theorem E_36_7 (Ls d : Nat) (y0 : Int) (w : AW) : Lm P0 (M0 Ls) d m_E_longest 7 [some (.inr (.inr 54))] [.inl y0] w = (if y0 = 0 then Lm P0 (M0 Ls) d m_E_longest 21 [some (.inr (.inr 54))] [.inl (-1)] w else Lk P0 (M0 Ls) d m_Fv_mostBeats [.inr (.inr 105)] w (fun r_ w_ => Lm P0 (M0 Ls) d m_E_longest 17 [some (.inr (.inr 54))] (r_.toList ++ []) w_)) := by
  rw [Lm_unf P0 (M0 Ls) sp_36 5]
  rfl
set_option maxRecDepth 100000 in
theorem E_36_17 (Ls d : Nat) (y0 : Int) (w : AW) : Lm P0 (M0 Ls) d m_E_longest 17 [some (.inr (.inr 54))] [.inl y0] w = Lm P0 (M0 Ls) d m_E_longest 21 [some (.inr (.inr 54))] [.inl y0] w := by
  rw [Lm_unf P0 (M0 Ls) sp_36 3]
  rfl
set_option maxRecDepth 100000 in
theorem E_36_21 (Ls d : Nat) (y0 : Int) (w : AW) : Lm P0 (M0 Ls) d m_E_longest 21 [some (.inr (.inr 54))] [.inl y0] w = some (some (.inl y0), w) := by
  rw [Lm_unf P0 (M0 Ls) sp_36 2]
  rfl
def sp_37 : Nat → Bool := fun q => [0, 17, 28, 31, 42].contains q
set_option maxRecDepth 100000 in
theorem E_37_0 (Ls d : Nat) (p1 p2 : Int) (w : AW) : Lm P0 (M0 Ls) d m_E_round 0 [some (.inr (.inr 54)), some (.inl p1), some (.inl p2)] [] w = (if p2 < 0 then Lm P0 (M0 Ls) d m_E_round 31 [some (.inr (.inr 54)), some (.inl p1), some (.inl p2)] [] w else (if p2 < p1 then Lk P0 (M0 Ls) d m_Ci_canTell [.inr (.inr 107), .inl p1] w (fun r_ w_ => Lm P0 (M0 Ls) d m_E_round 17 [some (.inr (.inr 54)), some (.inl p1), some (.inl p2)] (r_.toList ++ []) w_) else Lm P0 (M0 Ls) d m_E_round 31 [some (.inr (.inr 54)), some (.inl p1), some (.inl p2)] [] w)) := by
  rw [Lm_unf P0 (M0 Ls) sp_37 10]
  rfl
set_option maxRecDepth 100000 in
theorem E_37_17 (Ls d : Nat) (x1 x2 y0 : Int) (w : AW) : Lm P0 (M0 Ls) d m_E_round 17 [some (.inr (.inr 54)), some (.inl x1), some (.inl x2)] [.inl y0] w = (if y0 = 0 then Lm P0 (M0 Ls) d m_E_round 31 [some (.inr (.inr 54)), some (.inl x1), some (.inl x2)] [] w else Lk P0 (M0 Ls) d m_Ci_howMany [.inr (.inr 107), .inl x1] w (fun r_ w_ => Lm P0 (M0 Ls) d m_E_round 28 [some (.inr (.inr 54)), some (.inl x1), some (.inl x2)] (r_.toList ++ []) w_)) := by
  rw [Lm_unf P0 (M0 Ls) sp_37 6]
  rfl
set_option maxRecDepth 100000 in
theorem E_37_28 (Ls d : Nat) (x1 x2 y0 : Int) (w : AW) : Lm P0 (M0 Ls) d m_E_round 28 [some (.inr (.inr 54)), some (.inl x1), some (.inl x2)] [.inl y0] w = (if y0 = 0 then Lm P0 (M0 Ls) d m_E_round 31 [some (.inr (.inr 54)), some (.inl x1), some (.inl x2)] [] w else Lk P0 (M0 Ls) d m_Ci_noteOfFirst [.inr (.inr 107), .inl x1, .inl x2] w (fun r_ w_ => Lm P0 (M0 Ls) d m_E_round 42 [some (.inr (.inr 54)), some (.inl x1), some (.inl x2)] (r_.toList ++ []) w_)) := by
  rw [Lm_unf P0 (M0 Ls) sp_37 7]
  rfl
set_option maxRecDepth 100000 in
theorem E_37_31 (Ls d : Nat) (x1 x2 : Int) (w : AW) : Lm P0 (M0 Ls) d m_E_round 31 [some (.inr (.inr 54)), some (.inl x1), some (.inl x2)] [] w = some (some (.inl (-1)), w) := by
  rw [Lm_unf P0 (M0 Ls) sp_37 3]
  rfl
set_option maxRecDepth 100000 in
theorem E_37_42 (Ls d : Nat) (x1 x2 y0 : Int) (w : AW) : Lm P0 (M0 Ls) d m_E_round 42 [some (.inr (.inr 54)), some (.inl x1), some (.inl x2)] [.inl y0] w = some (some (.inl y0), w) := by
  rw [Lm_unf P0 (M0 Ls) sp_37 2]
  rfl
def sp_38 : Nat → Bool := fun q => [0, 8, 19, 23].contains q
set_option maxRecDepth 100000 in
theorem E_38_0 (Ls d : Nat) (p1 : Int) (w : AW) : Lm P0 (M0 Ls) d m_E_rounds 0 [some (.inr (.inr 54)), some (.inl p1)] [] w = Lk P0 (M0 Ls) d m_Ci_canTell [.inr (.inr 107), .inl p1] w (fun r_ w_ => Lm P0 (M0 Ls) d m_E_rounds 8 [some (.inr (.inr 54)), some (.inl p1)] (r_.toList ++ []) w_) := by
  rw [Lm_unf P0 (M0 Ls) sp_38 5]
  rfl
set_option maxRecDepth 100000 in
theorem E_38_8 (Ls d : Nat) (x1 y0 : Int) (w : AW) : Lm P0 (M0 Ls) d m_E_rounds 8 [some (.inr (.inr 54)), some (.inl x1)] [.inl y0] w = (if y0 = 0 then Lm P0 (M0 Ls) d m_E_rounds 23 [some (.inr (.inr 54)), some (.inl x1)] [.inl (-1)] w else Lk P0 (M0 Ls) d m_Ci_howMany [.inr (.inr 107), .inl x1] w (fun r_ w_ => Lm P0 (M0 Ls) d m_E_rounds 19 [some (.inr (.inr 54)), some (.inl x1)] (r_.toList ++ []) w_)) := by
  rw [Lm_unf P0 (M0 Ls) sp_38 6]
  rfl
set_option maxRecDepth 100000 in
theorem E_38_19 (Ls d : Nat) (x1 y0 : Int) (w : AW) : Lm P0 (M0 Ls) d m_E_rounds 19 [some (.inr (.inr 54)), some (.inl x1)] [.inl y0] w = Lm P0 (M0 Ls) d m_E_rounds 23 [some (.inr (.inr 54)), some (.inl x1)] [.inl y0] w := by
  rw [Lm_unf P0 (M0 Ls) sp_38 3]
  rfl
set_option maxRecDepth 100000 in
theorem E_38_23 (Ls d : Nat) (x1 y0 : Int) (w : AW) : Lm P0 (M0 Ls) d m_E_rounds 23 [some (.inr (.inr 54)), some (.inl x1)] [.inl y0] w = some (some (.inl y0), w) := by
  rw [Lm_unf P0 (M0 Ls) sp_38 2]
  rfl
def sp_39 : Nat → Bool := fun q => [0, 4, 14, 18].contains q
set_option maxRecDepth 100000 in
theorem E_39_0 (Ls d : Nat) (w : AW) : Lm P0 (M0 Ls) d m_E_mend 0 [some (.inr (.inr 54))] [] w = Lk P0 (M0 Ls) d m_E_canMend [.inr (.inr 54)] w (fun r_ w_ => Lm P0 (M0 Ls) d m_E_mend 4 [some (.inr (.inr 54))] (r_.toList ++ []) w_) := by
  rw [Lm_unf P0 (M0 Ls) sp_39 3]
  rfl
set_option maxRecDepth 100000 in
theorem E_39_4 (Ls d : Nat) (y0 : Int) (w : AW) : Lm P0 (M0 Ls) d m_E_mend 4 [some (.inr (.inr 54))] [.inl y0] w = (if y0 = 0 then Lm P0 (M0 Ls) d m_E_mend 18 [some (.inr (.inr 54))] [.inl (-1)] w else Lk P0 (M0 Ls) d m_Way_fewestChanges [.inr (.inr 99)] w (fun r_ w_ => Lm P0 (M0 Ls) d m_E_mend 14 [some (.inr (.inr 54))] (r_.toList ++ []) w_)) := by
  rw [Lm_unf P0 (M0 Ls) sp_39 5]
  rfl
set_option maxRecDepth 100000 in
theorem E_39_14 (Ls d : Nat) (y0 : Int) (w : AW) : Lm P0 (M0 Ls) d m_E_mend 14 [some (.inr (.inr 54))] [.inl y0] w = Lm P0 (M0 Ls) d m_E_mend 18 [some (.inr (.inr 54))] [.inl y0] w := by
  rw [Lm_unf P0 (M0 Ls) sp_39 3]
  rfl
set_option maxRecDepth 100000 in
theorem E_39_18 (Ls d : Nat) (y0 : Int) (w : AW) : Lm P0 (M0 Ls) d m_E_mend 18 [some (.inr (.inr 54))] [.inl y0] w = some (some (.inl y0), w) := by
  rw [Lm_unf P0 (M0 Ls) sp_39 2]
  rfl
def sp_40 : Nat → Bool := fun q => [0, 19, 29, 33, 44].contains q
set_option maxRecDepth 100000 in
theorem E_40_0 (Ls d : Nat) (p1 : Int) (w : AW) : Lm P0 (M0 Ls) d m_E_mendAt 0 [some (.inr (.inr 54)), some (.inl p1)] [] w = (if p1 < 0 then Lm P0 (M0 Ls) d m_E_mendAt 33 [some (.inr (.inr 54)), some (.inl p1)] [] w else (if p1 < (rd w 56 2) then Lk P0 (M0 Ls) d m_E_canMend [.inr (.inr 54)] w (fun r_ w_ => Lm P0 (M0 Ls) d m_E_mendAt 19 [some (.inr (.inr 54)), some (.inl p1)] (r_.toList ++ []) w_) else Lm P0 (M0 Ls) d m_E_mendAt 33 [some (.inr (.inr 54)), some (.inl p1)] [] w)) := by
  rw [Lm_unf P0 (M0 Ls) sp_40 10]
  rfl
set_option maxRecDepth 100000 in
theorem E_40_19 (Ls d : Nat) (x1 y0 : Int) (w : AW) : Lm P0 (M0 Ls) d m_E_mendAt 19 [some (.inr (.inr 54)), some (.inl x1)] [.inl y0] w = (if y0 = 0 then Lm P0 (M0 Ls) d m_E_mendAt 33 [some (.inr (.inr 54)), some (.inl x1)] [] w else Lk P0 (M0 Ls) d m_Way_fewestChanges [.inr (.inr 99)] w (fun r_ w_ => Lm P0 (M0 Ls) d m_E_mendAt 29 [some (.inr (.inr 54)), some (.inl x1)] (r_.toList ++ []) w_)) := by
  rw [Lm_unf P0 (M0 Ls) sp_40 5]
  rfl
set_option maxRecDepth 100000 in
theorem E_40_29 (Ls d : Nat) (x1 y0 : Int) (w : AW) : Lm P0 (M0 Ls) d m_E_mendAt 29 [some (.inr (.inr 54)), some (.inl x1)] [.inl y0] w = (if y0 = (-1) then Lm P0 (M0 Ls) d m_E_mendAt 33 [some (.inr (.inr 54)), some (.inl x1)] [] w else Lk P0 (M0 Ls) d m_Way_mendedNote [.inr (.inr 99), .inl x1] w (fun r_ w_ => Lm P0 (M0 Ls) d m_E_mendAt 44 [some (.inr (.inr 54)), some (.inl x1)] (r_.toList ++ []) w_)) := by
  rw [Lm_unf P0 (M0 Ls) sp_40 7]
  rfl
set_option maxRecDepth 100000 in
theorem E_40_33 (Ls d : Nat) (x1 : Int) (w : AW) : Lm P0 (M0 Ls) d m_E_mendAt 33 [some (.inr (.inr 54)), some (.inl x1)] [] w = some (some (.inl (-2)), w) := by
  rw [Lm_unf P0 (M0 Ls) sp_40 3]
  rfl
set_option maxRecDepth 100000 in
theorem E_40_44 (Ls d : Nat) (x1 y0 : Int) (w : AW) : Lm P0 (M0 Ls) d m_E_mendAt 44 [some (.inr (.inr 54)), some (.inl x1)] [.inl y0] w = some (some (.inl y0), w) := by
  rw [Lm_unf P0 (M0 Ls) sp_40 2]
  rfl
def sp_41 : Nat → Bool := fun q => [0, 17, 20, 31, 43, 51, 67, 79].contains q
set_option maxRecDepth 100000 in
theorem E_41_0 (Ls d : Nat) (p1 p2 : Int) (w : AW) : Lm P0 (M0 Ls) d m_E_delays 0 [some (.inr (.inr 54)), some (.inl p1), some (.inl p2), none, none, none, none] [] w = (if 24 < p1 then Lm P0 (M0 Ls) d m_E_delays 20 [some (.inr (.inr 54)), some (.inl p1), some (.inl p2), none, none, none, none] [] w else (if p2 = 0 then Lm P0 (M0 Ls) d m_E_delays 17 [some (.inr (.inr 54)), some (.inl p1), some (.inl p2), none, none, none, none] [.inl (-24), .inl p1] w else Lm P0 (M0 Ls) d m_E_delays 17 [some (.inr (.inr 54)), some (.inl p1), some (.inl p2), none, none, none, none] [.inl 0, .inl p1] w)) := by
  rw [Lm_unf P0 (M0 Ls) sp_41 10]
  rfl
set_option maxRecDepth 100000 in
theorem E_41_17 (Ls d : Nat) (x1 x2 y0 y1 : Int) (w : AW) : Lm P0 (M0 Ls) d m_E_delays 17 [some (.inr (.inr 54)), some (.inl x1), some (.inl x2), none, none, none, none] [.inl y0, .inl y1] w = (if y1 < y0 then Lm P0 (M0 Ls) d m_E_delays 20 [some (.inr (.inr 54)), some (.inl x1), some (.inl x2), none, none, none, none] [] w else (if x2 = 0 then Lm P0 (M0 Ls) d m_E_delays 31 [some (.inr (.inr 54)), some (.inl x1), some (.inl x2), none, none, none, none] [.inl 1] w else Lm P0 (M0 Ls) d m_E_delays 31 [some (.inr (.inr 54)), some (.inl x1), some (.inl x2), none, none, none, none] [.inl (-1)] w)) := by
  rw [Lm_unf P0 (M0 Ls) sp_41 7]
  rfl
set_option maxRecDepth 100000 in
theorem E_41_20 (Ls d : Nat) (x1 x2 : Int) (w : AW) : Lm P0 (M0 Ls) d m_E_delays 20 [some (.inr (.inr 54)), some (.inl x1), some (.inl x2), none, none, none, none] [] w = some (some (.inl (-1)), w) := by
  rw [Lm_unf P0 (M0 Ls) sp_41 3]
  rfl
set_option maxRecDepth 100000 in
theorem E_41_31 (Ls d : Nat) (x1 x2 y0 : Int) (w : AW) : Lm P0 (M0 Ls) d m_E_delays 31 [some (.inr (.inr 54)), some (.inl x1), some (.inl x2), none, none, none, none] [.inl y0] w = (if x2 = 0 then Lm P0 (M0 Ls) d m_E_delays 43 [some (.inr (.inr 54)), some (.inl x1), some (.inl x2), some (.inl y0), none, none, none] [.inl x1] w else Lm P0 (M0 Ls) d m_E_delays 43 [some (.inr (.inr 54)), some (.inl x1), some (.inl x2), some (.inl y0), none, none, none] [.inl (w32 (2 * x1))] w) := by
  rw [Lm_unf P0 (M0 Ls) sp_41 9]
  rfl
set_option maxRecDepth 100000 in
theorem E_41_43 (Ls d : Nat) (x1 x2 x3 y0 : Int) (w : AW) : Lm P0 (M0 Ls) d m_E_delays 43 [some (.inr (.inr 54)), some (.inl x1), some (.inl x2), some (.inl x3), none, none, none] [.inl y0] w = Lm P0 (M0 Ls) d m_E_delays 51 [some (.inr (.inr 54)), some (.inl x1), some (.inl x2), some (.inl x3), some (.inl y0), some (.inl 0), some (.inl 1)] [] w := by
  rw [Lm_unf P0 (M0 Ls) sp_41 7]
  rfl
set_option maxRecDepth 100000 in
theorem E_41_51 (Ls d : Nat) (x1 x2 x3 x4 x5 x6 : Int) (w : AW) : Lm P0 (M0 Ls) d m_E_delays 51 [some (.inr (.inr 54)), some (.inl x1), some (.inl x2), some (.inl x3), some (.inl x4), some (.inl x5), some (.inl x6)] [] w = (if 31 < x6 then some (some (.inl x5), w) else Lk P0 (M0 Ls) d m_E_isOwnCanon [.inr (.inr 54), .inl x6, .inl x3, .inl x4] w (fun r_ w_ => Lm P0 (M0 Ls) d m_E_delays 67 [some (.inr (.inr 54)), some (.inl x1), some (.inl x2), some (.inl x3), some (.inl x4), some (.inl x5), some (.inl x6)] (r_.toList ++ []) w_)) := by
  rw [Lm_unf P0 (M0 Ls) sp_41 9]
  rfl
set_option maxRecDepth 100000 in
theorem E_41_67 (Ls d : Nat) (x1 x2 x3 x4 x5 x6 y0 : Int) (w : AW) : Lm P0 (M0 Ls) d m_E_delays 67 [some (.inr (.inr 54)), some (.inl x1), some (.inl x2), some (.inl x3), some (.inl x4), some (.inl x5), some (.inl x6)] [.inl y0] w = (if y0 = 0 then Lm P0 (M0 Ls) d m_E_delays 79 [some (.inr (.inr 54)), some (.inl x1), some (.inl x2), some (.inl x3), some (.inl x4), some (.inl x5), some (.inl x6)] [] w else Lm P0 (M0 Ls) d m_E_delays 79 [some (.inr (.inr 54)), some (.inl x1), some (.inl x2), some (.inl x3), some (.inl x4), some (.inl (i32 (fun x y => x ||| y) x5 (i32 (fun x y => x <<< (y &&& 31)) 1 x6))), some (.inl x6)] [] w) := by
  rw [Lm_unf P0 (M0 Ls) sp_41 9]
  rfl
set_option maxRecDepth 100000 in
theorem E_41_79 (Ls d : Nat) (x1 x2 x3 x4 x5 x6 : Int) (w : AW) : Lm P0 (M0 Ls) d m_E_delays 79 [some (.inr (.inr 54)), some (.inl x1), some (.inl x2), some (.inl x3), some (.inl x4), some (.inl x5), some (.inl x6)] [] w = Lm P0 (M0 Ls) d m_E_delays 51 [some (.inr (.inr 54)), some (.inl x1), some (.inl x2), some (.inl x3), some (.inl x4), some (.inl x5), some (.inl (w32 (x6 + 1)))] [] w := by
  rw [Lm_unf P0 (M0 Ls) sp_41 4]
  rfl
def sp_42 : Nat → Bool := fun q => [0, 22, 30, 39, 51, 54, 76, 100].contains q
set_option maxRecDepth 100000 in
theorem E_42_0 (Ls d : Nat) (p1 p2 p3 : Int) (w : AW) : Lm P0 (M0 Ls) d m_E_choir 0 [some (.inr (.inr 54)), some (.inl p1), some (.inl p2), some (.inl p3)] [] w = (if p1 < 0 then Lm P0 (M0 Ls) d m_E_choir 22 [some (.inr (.inr 54)), some (.inl p1), some (.inl p2), some (.inl p3)] [] w else (if 9999 < p1 then Lm P0 (M0 Ls) d m_E_choir 22 [some (.inr (.inr 54)), some (.inl p1), some (.inl p2), some (.inl p3)] [] w else (if p2 < 2 then Lm P0 (M0 Ls) d m_E_choir 22 [some (.inr (.inr 54)), some (.inl p1), some (.inl p2), some (.inl p3)] [] w else (if 6 < p2 then Lm P0 (M0 Ls) d m_E_choir 22 [some (.inr (.inr 54)), some (.inl p1), some (.inl p2), some (.inl p3)] [] w else Lk P0 (M0 Ls) d m_E_drawChoir [.inr (.inr 54), .inl p1, .inl p2] w (fun r_ w_ => Lm P0 (M0 Ls) d m_E_choir 30 [some (.inr (.inr 54)), some (.inl p1), some (.inl p2), some (.inl p3)] (r_.toList ++ []) w_))))) := by
  rw [Lm_unf P0 (M0 Ls) sp_42 16]
  rfl
set_option maxRecDepth 100000 in
theorem E_42_22 (Ls d : Nat) (x1 x2 x3 : Int) (w : AW) : Lm P0 (M0 Ls) d m_E_choir 22 [some (.inr (.inr 54)), some (.inl x1), some (.inl x2), some (.inl x3)] [] w = some (some (.inl (-1)), w) := by
  rw [Lm_unf P0 (M0 Ls) sp_42 3]
  rfl
set_option maxRecDepth 100000 in
theorem E_42_30 (Ls d : Nat) (x1 x2 x3 : Int) (w : AW) : Lm P0 (M0 Ls) d m_E_choir 30 [some (.inr (.inr 54)), some (.inl x1), some (.inl x2), some (.inl x3)] [] w = (if x3 = 0 then Lm P0 (M0 Ls) d m_E_choir 39 [some (.inr (.inr 54)), some (.inl x1), some (.inl x2), some (.inl x3)] [] w else (if x3 = 1 then Lm P0 (M0 Ls) d m_E_choir 39 [some (.inr (.inr 54)), some (.inl x1), some (.inl x2), some (.inl x3)] [] w else (if x3 < 2 then Lm P0 (M0 Ls) d m_E_choir 76 [some (.inr (.inr 54)), some (.inl x1), some (.inl x2), some (.inl x3)] [] w else (if x3 < (w32 (2 + x2)) then (if 0 ≤ (w32 (x3 - 2)) ∧ (w32 (x3 - 2)) < 6 then some (some (.inl (rd w 110 (w32 (x3 - 2)))), w) else none) else Lm P0 (M0 Ls) d m_E_choir 76 [some (.inr (.inr 54)), some (.inl x1), some (.inl x2), some (.inl x3)] [] w)))) := by
  rw [Lm_unf P0 (M0 Ls) sp_42 21]
  rfl
set_option maxRecDepth 100000 in
theorem E_42_39 (Ls d : Nat) (x1 x2 x3 : Int) (w : AW) : Lm P0 (M0 Ls) d m_E_choir 39 [some (.inr (.inr 54)), some (.inl x1), some (.inl x2), some (.inl x3)] [] w = (if x3 = 1 then Lm P0 (M0 Ls) d m_E_choir 51 [some (.inr (.inr 54)), some (.inl x1), some (.inl x2), some (.inl x3)] [.inl 1, .inl x2, .inr (.inr 54)] w else Lm P0 (M0 Ls) d m_E_choir 51 [some (.inr (.inr 54)), some (.inl x1), some (.inl x2), some (.inl x3)] [.inl 0, .inl x2, .inr (.inr 54)] w) := by
  rw [Lm_unf P0 (M0 Ls) sp_42 9]
  rfl
set_option maxRecDepth 100000 in
theorem E_42_51 (Ls d : Nat) (x1 x2 x3 y0 y1 : Int) (w : AW) : Lm P0 (M0 Ls) d m_E_choir 51 [some (.inr (.inr 54)), some (.inl x1), some (.inl x2), some (.inl x3)] [.inl y0, .inl y1, .inr (.inr 54)] w = Lk P0 (M0 Ls) d m_E_hearChoir [.inr (.inr 54), .inl y1, .inl y0] w (fun r_ w_ => Lm P0 (M0 Ls) d m_E_choir 54 [some (.inr (.inr 54)), some (.inl x1), some (.inl x2), some (.inl x3)] (r_.toList ++ []) w_) := by
  rw [Lm_unf P0 (M0 Ls) sp_42 2]
  rfl
set_option maxRecDepth 100000 in
theorem E_42_54 (Ls d : Nat) (x1 x2 x3 y0 : Int) (w : AW) : Lm P0 (M0 Ls) d m_E_choir 54 [some (.inr (.inr 54)), some (.inl x1), some (.inl x2), some (.inl x3)] [.inl y0] w = some (some (.inl y0), w) := by
  rw [Lm_unf P0 (M0 Ls) sp_42 2]
  rfl
set_option maxRecDepth 100000 in
theorem E_42_76 (Ls d : Nat) (x1 x2 x3 : Int) (w : AW) : Lm P0 (M0 Ls) d m_E_choir 76 [some (.inr (.inr 54)), some (.inl x1), some (.inl x2), some (.inl x3)] [] w = (if x3 < 8 then Lm P0 (M0 Ls) d m_E_choir 100 [some (.inr (.inr 54)), some (.inl x1), some (.inl x2), some (.inl x3)] [] w else (if x3 < (w32 (8 + x2)) then (if 0 ≤ (w32 (x3 - 8)) ∧ (w32 (x3 - 8)) < 6 then some (some (.inl (rd w 111 (w32 (x3 - 8)))), w) else none) else Lm P0 (M0 Ls) d m_E_choir 100 [some (.inr (.inr 54)), some (.inl x1), some (.inl x2), some (.inl x3)] [] w)) := by
  rw [Lm_unf P0 (M0 Ls) sp_42 16]
  rfl
set_option maxRecDepth 100000 in
theorem E_42_100 (Ls d : Nat) (x1 x2 x3 : Int) (w : AW) : Lm P0 (M0 Ls) d m_E_choir 100 [some (.inr (.inr 54)), some (.inl x1), some (.inl x2), some (.inl x3)] [] w = some (some (.inl (-1)), w) := by
  rw [Lm_unf P0 (M0 Ls) sp_42 3]
  rfl
def sp_43 : Nat → Bool := fun q => [0, 7, 11, 18].contains q
set_option maxRecDepth 100000 in
theorem E_43_0 (Ls d : Nat) (w : AW) : Lm P0 (M0 Ls) d m_E_clear 0 [some (.inr (.inr 54))] [] w = Lk P0 (M0 Ls) d m_State_empty [.inr (.inr 57)] w (fun r_ w_ => Lm P0 (M0 Ls) d m_E_clear 7 [some (.inr (.inr 54))] (r_.toList ++ []) w_) := by
  rw [Lm_unf P0 (M0 Ls) sp_43 4]
  rfl
set_option maxRecDepth 100000 in
theorem E_43_7 (Ls d : Nat) (w : AW) : Lm P0 (M0 Ls) d m_E_clear 7 [some (.inr (.inr 54))] [] w = Lk P0 (M0 Ls) d m_E_fixedChanged [.inr (.inr 54)] w (fun r_ w_ => Lm P0 (M0 Ls) d m_E_clear 11 [some (.inr (.inr 54))] (r_.toList ++ []) w_) := by
  rw [Lm_unf P0 (M0 Ls) sp_43 3]
  rfl
set_option maxRecDepth 100000 in
theorem E_43_11 (Ls d : Nat) (w : AW) : Lm P0 (M0 Ls) d m_E_clear 11 [some (.inr (.inr 54))] [] w = Lk P0 (M0 Ls) d m_Way_forgetMend [.inr (.inr 99)] w (fun r_ w_ => Lm P0 (M0 Ls) d m_E_clear 18 [some (.inr (.inr 54))] (r_.toList ++ []) w_) := by
  rw [Lm_unf P0 (M0 Ls) sp_43 4]
  rfl
set_option maxRecDepth 100000 in
theorem E_43_18 (Ls d : Nat) (w : AW) : Lm P0 (M0 Ls) d m_E_clear 18 [some (.inr (.inr 54))] [] w = some (some (.inl 1), w) := by
  rw [Lm_unf P0 (M0 Ls) sp_43 3]
  rfl
def sp_44 : Nat → Bool := fun q => [0, 9, 36, 40, 53, 61, 69].contains q
set_option maxRecDepth 100000 in
theorem E_44_0 (Ls d : Nat) (p1 p2 : Int) (w : AW) : Lm P0 (M0 Ls) d m_E_mark 0 [some (.inr (.inr 54)), some (.inl p1), some (.inl p2), none] [] w = (if p1 < 0 then Lm P0 (M0 Ls) d m_E_mark 9 [some (.inr (.inr 54)), some (.inl p1), some (.inl p2), none] [] w else (if p1 < 4 then (if 0 ≤ p1 ∧ p1 < 4 then (if p2 = 0 then (if (rd w 69 p1) = 0 then (if 0 < ((w.1 : Int) + 1) then Lk P0 (M0 Ls) d m_State_init [.inr (.inr ((w.1 : Int) + 1))] (alloc w 2 4) (fun r_ w_ => Lm P0 (M0 Ls) d m_E_mark 53 [some (.inr (.inr 54)), some (.inl p1), some (.inl p2), some (.inr (.inr (rd w 69 p1)))] (r_.toList ++ [.inr (.inr ((w.1 : Int) + 1))]) w_) else none) else (if 0 < (rd w 69 p1) then Lm P0 (M0 Ls) d m_E_mark 61 [some (.inr (.inr 54)), some (.inl p1), some (.inl p2), some (.inr (.inr (rd w 69 p1)))] [] w else none)) else (if (rd w 69 p1) = 0 then some (some (.inl 0), w) else (if 0 < (rd w 69 p1) then Lk P0 (M0 Ls) d m_State_copyFrom [.inr (.inr 57), .inr (.inr (rd w 69 p1))] w (fun r_ w_ => Lm P0 (M0 Ls) d m_E_mark 36 [some (.inr (.inr 54)), some (.inl p1), some (.inl p2), some (.inr (.inr (rd w 69 p1)))] (r_.toList ++ []) w_) else none))) else none) else Lm P0 (M0 Ls) d m_E_mark 9 [some (.inr (.inr 54)), some (.inl p1), some (.inl p2), none] [] w)) := by
  rw [Lm_unf P0 (M0 Ls) sp_44 19]
  rfl
set_option maxRecDepth 100000 in
theorem E_44_9 (Ls d : Nat) (x1 x2 : Int) (w : AW) : Lm P0 (M0 Ls) d m_E_mark 9 [some (.inr (.inr 54)), some (.inl x1), some (.inl x2), none] [] w = some (some (.inl 0), w) := by
  rw [Lm_unf P0 (M0 Ls) sp_44 3]
  rfl
set_option maxRecDepth 100000 in
theorem E_44_36 (Ls d : Nat) (x1 x2 x3 : Int) (w : AW) : Lm P0 (M0 Ls) d m_E_mark 36 [some (.inr (.inr 54)), some (.inl x1), some (.inl x2), some (.inr (.inr x3))] [] w = Lk P0 (M0 Ls) d m_E_rockChanged [.inr (.inr 54)] w (fun r_ w_ => Lm P0 (M0 Ls) d m_E_mark 40 [some (.inr (.inr 54)), some (.inl x1), some (.inl x2), some (.inr (.inr x3))] (r_.toList ++ []) w_) := by
  rw [Lm_unf P0 (M0 Ls) sp_44 3]
  rfl
set_option maxRecDepth 100000 in
theorem E_44_40 (Ls d : Nat) (x1 x2 x3 : Int) (w : AW) : Lm P0 (M0 Ls) d m_E_mark 40 [some (.inr (.inr 54)), some (.inl x1), some (.inl x2), some (.inr (.inr x3))] [] w = some (some (.inl 1), w) := by
  rw [Lm_unf P0 (M0 Ls) sp_44 3]
  rfl
set_option maxRecDepth 100000 in
theorem E_44_53 (Ls d : Nat) (x1 x2 x3 y0 : Int) (w : AW) : Lm P0 (M0 Ls) d m_E_mark 53 [some (.inr (.inr 54)), some (.inl x1), some (.inl x2), some (.inr (.inr x3))] [.inr (.inr y0)] w = (if 0 ≤ x1 ∧ x1 < 4 then (if 0 < y0 ∧ (shv (M0 Ls) w (adr y0)).1 = 2 then Lm P0 (M0 Ls) d m_E_mark 61 [some (.inr (.inr 54)), some (.inl x1), some (.inl x2), some (.inr (.inr y0))] [] (wC w 69 x1 y0) else none) else none) := by
  rw [Lm_unf P0 (M0 Ls) sp_44 8]
  rfl
set_option maxRecDepth 100000 in
theorem E_44_61 (Ls d : Nat) (x1 x2 x3 : Int) (w : AW) : Lm P0 (M0 Ls) d m_E_mark 61 [some (.inr (.inr 54)), some (.inl x1), some (.inl x2), some (.inr (.inr x3))] [] w = (if 0 < x3 then (if (shv (M0 Ls) w (adr x3)).1 = Int.toNat 2 then Lk P0 (M0 Ls) d m_State_copyFrom [.inr (.inr x3), .inr (.inr 57)] w (fun r_ w_ => Lm P0 (M0 Ls) d m_E_mark 69 [some (.inr (.inr 54)), some (.inl x1), some (.inl x2), some (.inr (.inr x3))] (r_.toList ++ []) w_) else none) else none) := by
  rw [Lm_unf P0 (M0 Ls) sp_44 5]
  rfl
set_option maxRecDepth 100000 in
theorem E_44_69 (Ls d : Nat) (x1 x2 x3 : Int) (w : AW) : Lm P0 (M0 Ls) d m_E_mark 69 [some (.inr (.inr 54)), some (.inl x1), some (.inl x2), some (.inr (.inr x3))] [] w = some (some (.inl 1), w) := by
  rw [Lm_unf P0 (M0 Ls) sp_44 3]
  rfl
def sp_45 : Nat → Bool := fun q => [0, 139].contains q
set_option maxRecDepth 100000 in
theorem E_45_0 (Ls d : Nat) (p1 : Int) (w : AW) : Lm P0 (M0 Ls) d m_E_count 0 [some (.inr (.inr 54)), some (.inl p1)] [] w = (if p1 = 0 then some (some (.inl (rd w 57 0)), w) else (if p1 = 1 then some (some (.inl (rd w 57 1)), w) else (if p1 = 2 then some (some (.inl (rd w 57 2)), w) else (if p1 = 3 then some (some (.inl (rd w 63 1)), w) else (if p1 = 4 then some (some (.inl (rd w 63 0)), w) else (if p1 = 5 then some (some (.inl (rd w 63 2)), w) else (if p1 = 6 then some (some (.inl (rd w 56 2)), w) else (if p1 = 7 then Lk P0 (M0 Ls) d m_State_howManyFixed [.inr (.inr 57)] w (fun r_ w_ => Lm P0 (M0 Ls) d m_E_count 139 [some (.inr (.inr 54)), some (.inl p1)] (r_.toList ++ []) w_) else (if p1 = 8 then some (some (.inl (rd w 54 1)), w) else some (some (.inl (-1)), w)))))))))) := by
  rw [Lm_unf P0 (M0 Ls) sp_45 10]
  rfl
set_option maxRecDepth 100000 in
theorem E_45_139 (Ls d : Nat) (x1 y0 : Int) (w : AW) : Lm P0 (M0 Ls) d m_E_count 139 [some (.inr (.inr 54)), some (.inl x1)] [.inl y0] w = some (some (.inl y0), w) := by
  rw [Lm_unf P0 (M0 Ls) sp_45 2]
  rfl
def sp_46 : Nat → Bool := fun q => [0, 18, 25, 26].contains q
set_option maxRecDepth 100000 in
theorem E_46_0 (Ls d : Nat) (p1 : Int) (w : AW) : Lm P0 (M0 Ls) d m_E_canTellLeast 0 [some (.inr (.inr 54)), some (.inl p1)] [] w = (if p1 < 1 then Lm P0 (M0 Ls) d m_E_canTellLeast 25 [some (.inr (.inr 54)), some (.inl p1)] [] w else (if 60 < p1 then Lm P0 (M0 Ls) d m_E_canTellLeast 25 [some (.inr (.inr 54)), some (.inl p1)] [] w else Lk P0 (M0 Ls) d m_Tb_ready [.inr (.inr 95)] w (fun r_ w_ => Lm P0 (M0 Ls) d m_E_canTellLeast 18 [some (.inr (.inr 54)), some (.inl p1)] (r_.toList ++ []) w_))) := by
  rw [Lm_unf P0 (M0 Ls) sp_46 10]
  rfl
set_option maxRecDepth 100000 in
theorem E_46_18 (Ls d : Nat) (x1 y0 : Int) (w : AW) : Lm P0 (M0 Ls) d m_E_canTellLeast 18 [some (.inr (.inr 54)), some (.inl x1)] [.inl y0] w = (if y0 = 0 then Lm P0 (M0 Ls) d m_E_canTellLeast 25 [some (.inr (.inr 54)), some (.inl x1)] [] w else Lm P0 (M0 Ls) d m_E_canTellLeast 26 [some (.inr (.inr 54)), some (.inl x1)] [.inl 1] w) := by
  rw [Lm_unf P0 (M0 Ls) sp_46 5]
  rfl
set_option maxRecDepth 100000 in
theorem E_46_25 (Ls d : Nat) (x1 : Int) (w : AW) : Lm P0 (M0 Ls) d m_E_canTellLeast 25 [some (.inr (.inr 54)), some (.inl x1)] [] w = Lm P0 (M0 Ls) d m_E_canTellLeast 26 [some (.inr (.inr 54)), some (.inl x1)] [.inl 0] w := by
  rw [Lm_unf P0 (M0 Ls) sp_46 3]
  rfl
set_option maxRecDepth 100000 in
theorem E_46_26 (Ls d : Nat) (x1 y0 : Int) (w : AW) : Lm P0 (M0 Ls) d m_E_canTellLeast 26 [some (.inr (.inr 54)), some (.inl x1)] [.inl y0] w = (if rok 3 y0 = true then some (some (.inl y0), w) else none) := by
  rw [Lm_unf P0 (M0 Ls) sp_46 2]
  rfl
def sp_47 : Nat → Bool := fun q => [0, 30, 37, 38].contains q
set_option maxRecDepth 100000 in
theorem E_47_0 (Ls d : Nat) (w : AW) : Lm P0 (M0 Ls) d m_E_canMend 0 [some (.inr (.inr 54))] [] w = (if (rd w 56 2) < 1 then Lm P0 (M0 Ls) d m_E_canMend 37 [some (.inr (.inr 54))] [] w else (if 60 < (rd w 56 2) then Lm P0 (M0 Ls) d m_E_canMend 37 [some (.inr (.inr 54))] [] w else Lk P0 (M0 Ls) d m_Tb_ready [.inr (.inr 95)] w (fun r_ w_ => Lm P0 (M0 Ls) d m_E_canMend 30 [some (.inr (.inr 54))] (r_.toList ++ []) w_))) := by
  rw [Lm_unf P0 (M0 Ls) sp_47 14]
  rfl
set_option maxRecDepth 100000 in
theorem E_47_30 (Ls d : Nat) (y0 : Int) (w : AW) : Lm P0 (M0 Ls) d m_E_canMend 30 [some (.inr (.inr 54))] [.inl y0] w = (if y0 = 0 then Lm P0 (M0 Ls) d m_E_canMend 37 [some (.inr (.inr 54))] [] w else Lm P0 (M0 Ls) d m_E_canMend 38 [some (.inr (.inr 54))] [.inl 1] w) := by
  rw [Lm_unf P0 (M0 Ls) sp_47 5]
  rfl
set_option maxRecDepth 100000 in
theorem E_47_37 (Ls d : Nat) (w : AW) : Lm P0 (M0 Ls) d m_E_canMend 37 [some (.inr (.inr 54))] [] w = Lm P0 (M0 Ls) d m_E_canMend 38 [some (.inr (.inr 54))] [.inl 0] w := by
  rw [Lm_unf P0 (M0 Ls) sp_47 3]
  rfl
set_option maxRecDepth 100000 in
theorem E_47_38 (Ls d : Nat) (y0 : Int) (w : AW) : Lm P0 (M0 Ls) d m_E_canMend 38 [some (.inr (.inr 54))] [.inl y0] w = (if rok 3 y0 = true then some (some (.inl y0), w) else none) := by
  rw [Lm_unf P0 (M0 Ls) sp_47 2]
  rfl
def sp_48 : Nat → Bool := fun q => [0, 7, 14, 21, 28, 35, 39].contains q
set_option maxRecDepth 100000 in
theorem E_48_0 (Ls d : Nat) (w : AW) : Lm P0 (M0 Ls) d m_E_rockChanged 0 [some (.inr (.inr 54))] [] w = Lk P0 (M0 Ls) d m_Judge_forget [.inr (.inr 88)] w (fun r_ w_ => Lm P0 (M0 Ls) d m_E_rockChanged 7 [some (.inr (.inr 54))] (r_.toList ++ []) w_) := by
  rw [Lm_unf P0 (M0 Ls) sp_48 4]
  rfl
set_option maxRecDepth 100000 in
theorem E_48_7 (Ls d : Nat) (w : AW) : Lm P0 (M0 Ls) d m_E_rockChanged 7 [some (.inr (.inr 54))] [] w = Lk P0 (M0 Ls) d m_Tb_forget [.inr (.inr 95)] w (fun r_ w_ => Lm P0 (M0 Ls) d m_E_rockChanged 14 [some (.inr (.inr 54))] (r_.toList ++ []) w_) := by
  rw [Lm_unf P0 (M0 Ls) sp_48 4]
  rfl
set_option maxRecDepth 100000 in
theorem E_48_14 (Ls d : Nat) (w : AW) : Lm P0 (M0 Ls) d m_E_rockChanged 14 [some (.inr (.inr 54))] [] w = Lk P0 (M0 Ls) d m_Fv_forget [.inr (.inr 105)] w (fun r_ w_ => Lm P0 (M0 Ls) d m_E_rockChanged 21 [some (.inr (.inr 54))] (r_.toList ++ []) w_) := by
  rw [Lm_unf P0 (M0 Ls) sp_48 4]
  rfl
set_option maxRecDepth 100000 in
theorem E_48_21 (Ls d : Nat) (w : AW) : Lm P0 (M0 Ls) d m_E_rockChanged 21 [some (.inr (.inr 54))] [] w = Lk P0 (M0 Ls) d m_Ci_forget [.inr (.inr 107)] w (fun r_ w_ => Lm P0 (M0 Ls) d m_E_rockChanged 28 [some (.inr (.inr 54))] (r_.toList ++ []) w_) := by
  rw [Lm_unf P0 (M0 Ls) sp_48 4]
  rfl
set_option maxRecDepth 100000 in
theorem E_48_28 (Ls d : Nat) (w : AW) : Lm P0 (M0 Ls) d m_E_rockChanged 28 [some (.inr (.inr 54))] [] w = Lk P0 (M0 Ls) d m_Way_forgetMend [.inr (.inr 99)] w (fun r_ w_ => Lm P0 (M0 Ls) d m_E_rockChanged 35 [some (.inr (.inr 54))] (r_.toList ++ []) w_) := by
  rw [Lm_unf P0 (M0 Ls) sp_48 4]
  rfl
set_option maxRecDepth 100000 in
theorem E_48_35 (Ls d : Nat) (w : AW) : Lm P0 (M0 Ls) d m_E_rockChanged 35 [some (.inr (.inr 54))] [] w = Lk P0 (M0 Ls) d m_E_fixedChanged [.inr (.inr 54)] w (fun r_ w_ => Lm P0 (M0 Ls) d m_E_rockChanged 39 [some (.inr (.inr 54))] (r_.toList ++ []) w_) := by
  rw [Lm_unf P0 (M0 Ls) sp_48 3]
  rfl
set_option maxRecDepth 100000 in
theorem E_48_39 (Ls d : Nat) (w : AW) : Lm P0 (M0 Ls) d m_E_rockChanged 39 [some (.inr (.inr 54))] [] w = some (none, w) := by
  rw [Lm_unf P0 (M0 Ls) sp_48 2]
  rfl
def sp_49 : Nat → Bool := fun q => [0, 7, 14].contains q
set_option maxRecDepth 100000 in
theorem E_49_0 (Ls d : Nat) (w : AW) : Lm P0 (M0 Ls) d m_E_fixedChanged 0 [some (.inr (.inr 54))] [] w = Lk P0 (M0 Ls) d m_Tally_forget [.inr (.inr 97)] w (fun r_ w_ => Lm P0 (M0 Ls) d m_E_fixedChanged 7 [some (.inr (.inr 54))] (r_.toList ++ []) w_) := by
  rw [Lm_unf P0 (M0 Ls) sp_49 4]
  rfl
set_option maxRecDepth 100000 in
theorem E_49_7 (Ls d : Nat) (w : AW) : Lm P0 (M0 Ls) d m_E_fixedChanged 7 [some (.inr (.inr 54))] [] w = Lk P0 (M0 Ls) d m_Way_forgetLeast [.inr (.inr 99)] w (fun r_ w_ => Lm P0 (M0 Ls) d m_E_fixedChanged 14 [some (.inr (.inr 54))] (r_.toList ++ []) w_) := by
  rw [Lm_unf P0 (M0 Ls) sp_49 4]
  rfl
set_option maxRecDepth 100000 in
theorem E_49_14 (Ls d : Nat) (w : AW) : Lm P0 (M0 Ls) d m_E_fixedChanged 14 [some (.inr (.inr 54))] [] w = some (none, w) := by
  rw [Lm_unf P0 (M0 Ls) sp_49 2]
  rfl
def sp_50 : Nat → Bool := fun q => [0, 8, 11].contains q
set_option maxRecDepth 100000 in
theorem E_50_0 (Ls d : Nat) (p1 p2 p3 : Int) (w : AW) : Lm P0 (M0 Ls) d m_E_roomFor 0 [some (.inl p1), some (.inl p2), some (.inl p3)] [] w = Lk P0 (M0 Ls) d m_Math_min [.inl (w32 (2 * p2)), .inl p3] w (fun r_ w_ => Lm P0 (M0 Ls) d m_E_roomFor 8 [some (.inl p1), some (.inl p2), some (.inl p3)] (r_.toList ++ [.inl p1]) w_) := by
  rw [Lm_unf P0 (M0 Ls) sp_50 7]
  rfl
set_option maxRecDepth 100000 in
theorem E_50_8 (Ls d : Nat) (x0 x1 x2 y0 y1 : Int) (w : AW) : Lm P0 (M0 Ls) d m_E_roomFor 8 [some (.inl x0), some (.inl x1), some (.inl x2)] [.inl y0, .inl y1] w = Lk P0 (M0 Ls) d m_Math_max [.inl y1, .inl y0] w (fun r_ w_ => Lm P0 (M0 Ls) d m_E_roomFor 11 [some (.inl x0), some (.inl x1), some (.inl x2)] (r_.toList ++ []) w_) := by
  rw [Lm_unf P0 (M0 Ls) sp_50 2]
  rfl
set_option maxRecDepth 100000 in
theorem E_50_11 (Ls d : Nat) (x0 x1 x2 y0 : Int) (w : AW) : Lm P0 (M0 Ls) d m_E_roomFor 11 [some (.inl x0), some (.inl x1), some (.inl x2)] [.inl y0] w = some (some (.inl y0), w) := by
  rw [Lm_unf P0 (M0 Ls) sp_50 2]
  rfl
def sp_51 : Nat → Bool := fun q => [0, 26].contains q
set_option maxRecDepth 100000 in
theorem E_51_0 (Ls d : Nat) (w : AW) : Lm P0 (M0 Ls) d m_E_lastBeat 0 [some (.inr (.inr 54))] [] w = (if (rd w 56 2) = 0 then Lm P0 (M0 Ls) d m_E_lastBeat 26 [some (.inr (.inr 54))] [.inl (-1)] w else Lm P0 (M0 Ls) d m_E_lastBeat 26 [some (.inr (.inr 54))] [.inl (w32 ((w32 (2 * (rd w 56 2))) + 64))] w) := by
  rw [Lm_unf P0 (M0 Ls) sp_51 13]
  rfl
set_option maxRecDepth 100000 in
theorem E_51_26 (Ls d : Nat) (y0 : Int) (w : AW) : Lm P0 (M0 Ls) d m_E_lastBeat 26 [some (.inr (.inr 54))] [.inl y0] w = some (some (.inl y0), w) := by
  rw [Lm_unf P0 (M0 Ls) sp_51 2]
  rfl
def sp_52 : Nat → Bool := fun q => [0, 15, 37, 57, 79, 84].contains q
set_option maxRecDepth 100000 in
theorem E_52_0 (Ls d : Nat) (p1 : Int) (w : AW) : Lm P0 (M0 Ls) d m_E_faultInBeat 0 [some (.inr (.inr 54)), some (.inl p1), none, none] [] w = Lm P0 (M0 Ls) d m_E_faultInBeat 15 [some (.inr (.inr 54)), some (.inl p1), some (.inl (w32 (1 + (rd w 57 2)))), some (.inl 0)] [] w := by
  rw [Lm_unf P0 (M0 Ls) sp_52 11]
  rfl
set_option maxRecDepth 100000 in
theorem E_52_15 (Ls d : Nat) (x1 x2 x3 : Int) (w : AW) : Lm P0 (M0 Ls) d m_E_faultInBeat 15 [some (.inr (.inr 54)), some (.inl x1), some (.inl x2), some (.inl x3)] [] w = (if x3 < x2 then Lk P0 (M0 Ls) d m_State_heard [.inr (.inr 57), .inl x3, .inl x1] w (fun r_ w_ => Lm P0 (M0 Ls) d m_E_faultInBeat 37 [some (.inr (.inr 54)), some (.inl x1), some (.inl x2), some (.inl x3)] (r_.toList ++ [.inl x3, .inr (.inr 89)]) w_) else Lk P0 (M0 Ls) d m_Rock_strongAt [.inr (.inr 58), .inl x1] w (fun r_ w_ => Lm P0 (M0 Ls) d m_E_faultInBeat 79 [some (.inr (.inr 54)), some (.inl x1), some (.inl x2), some (.inl x3)] (r_.toList ++ [.inr (.inr 88)]) w_)) := by
  rw [Lm_unf P0 (M0 Ls) sp_52 13]
  rfl
set_option maxRecDepth 100000 in
theorem E_52_37 (Ls d : Nat) (x1 x2 x3 y0 y1 : Int) (w : AW) : Lm P0 (M0 Ls) d m_E_faultInBeat 37 [some (.inr (.inr 54)), some (.inl x1), some (.inl x2), some (.inl x3)] [.inl y0, .inl y1, .inr (.inr 89)] w = (if 0 ≤ y1 ∧ y1 < 9 then Lk P0 (M0 Ls) d m_State_heard [.inr (.inr 57), .inl x3, .inl (w32 (x1 - 1))] (wC w 88 y1 y0) (fun r_ w_ => Lm P0 (M0 Ls) d m_E_faultInBeat 57 [some (.inr (.inr 54)), some (.inl x1), some (.inl x2), some (.inl x3)] (r_.toList ++ [.inl x3, .inr (.inr 90)]) w_) else none) := by
  rw [Lm_unf P0 (M0 Ls) sp_52 13]
  rfl
set_option maxRecDepth 100000 in
theorem E_52_57 (Ls d : Nat) (x1 x2 x3 y0 y1 : Int) (w : AW) : Lm P0 (M0 Ls) d m_E_faultInBeat 57 [some (.inr (.inr 54)), some (.inl x1), some (.inl x2), some (.inl x3)] [.inl y0, .inl y1, .inr (.inr 90)] w = (if 0 ≤ y1 ∧ y1 < 9 then Lm P0 (M0 Ls) d m_E_faultInBeat 15 [some (.inr (.inr 54)), some (.inl x1), some (.inl x2), some (.inl (w32 (x3 + 1)))] [] (wC w 89 y1 y0) else none) := by
  rw [Lm_unf P0 (M0 Ls) sp_52 5]
  rfl
set_option maxRecDepth 100000 in
theorem E_52_79 (Ls d : Nat) (x1 x2 x3 y0 : Int) (w : AW) : Lm P0 (M0 Ls) d m_E_faultInBeat 79 [some (.inr (.inr 54)), some (.inl x1), some (.inl x2), some (.inl x3)] [.inl y0, .inr (.inr 88)] w = Lk P0 (M0 Ls) d m_Judge_firstFault [.inr (.inr 88), .inl y0, .inl x2, .inl 1] w (fun r_ w_ => Lm P0 (M0 Ls) d m_E_faultInBeat 84 [some (.inr (.inr 54)), some (.inl x1), some (.inl x2), some (.inl x3)] (r_.toList ++ []) w_) := by
  rw [Lm_unf P0 (M0 Ls) sp_52 4]
  rfl
set_option maxRecDepth 100000 in
theorem E_52_84 (Ls d : Nat) (x1 x2 x3 y0 : Int) (w : AW) : Lm P0 (M0 Ls) d m_E_faultInBeat 84 [some (.inr (.inr 54)), some (.inl x1), some (.inl x2), some (.inl x3)] [.inl y0] w = some (some (.inl y0), w) := by
  rw [Lm_unf P0 (M0 Ls) sp_52 2]
  rfl
def sp_53 : Nat → Bool := fun q => [0, 14, 40, 62, 84, 108, 125, 130].contains q
set_option maxRecDepth 100000 in
theorem E_53_0 (Ls d : Nat) (p1 p2 p3 : Int) (w : AW) : Lm P0 (M0 Ls) d m_E_isOwnCanon 0 [some (.inr (.inr 54)), some (.inl p1), some (.inl p2), some (.inl p3), none, none] [] w = Lm P0 (M0 Ls) d m_E_isOwnCanon 14 [some (.inr (.inr 54)), some (.inl p1), some (.inl p2), some (.inl p3), some (.inl (w32 ((rd w 56 2) + p1))), some (.inl 0)] [] w := by
  rw [Lm_unf P0 (M0 Ls) sp_53 10]
  rfl
set_option maxRecDepth 100000 in
theorem E_53_14 (Ls d : Nat) (x1 x2 x3 x4 x5 : Int) (w : AW) : Lm P0 (M0 Ls) d m_E_isOwnCanon 14 [some (.inr (.inr 54)), some (.inl x1), some (.inl x2), some (.inl x3), some (.inl x4), some (.inl x5)] [] w = (if x5 < x4 then Lk P0 (M0 Ls) d m_State_shifted [.inr (.inr 57), .inl x5, .inl 1, .inl 0] w (fun r_ w_ => Lm P0 (M0 Ls) d m_E_isOwnCanon 40 [some (.inr (.inr 54)), some (.inl x1), some (.inl x2), some (.inl x3), some (.inl x4), some (.inl x5)] (r_.toList ++ [.inl 0, .inr (.inr 89)]) w_) else some (some (.inl 1), w)) := by
  rw [Lm_unf P0 (M0 Ls) sp_53 14]
  rfl
set_option maxRecDepth 100000 in
theorem E_53_40 (Ls d : Nat) (x1 x2 x3 x4 x5 y0 y1 : Int) (w : AW) : Lm P0 (M0 Ls) d m_E_isOwnCanon 40 [some (.inr (.inr 54)), some (.inl x1), some (.inl x2), some (.inl x3), some (.inl x4), some (.inl x5)] [.inl y0, .inl y1, .inr (.inr 89)] w = (if 0 ≤ y1 ∧ y1 < 9 then Lk P0 (M0 Ls) d m_State_shifted [.inr (.inr 57), .inl (w32 (x5 - 1)), .inl 1, .inl 0] (wC w 88 y1 y0) (fun r_ w_ => Lm P0 (M0 Ls) d m_E_isOwnCanon 62 [some (.inr (.inr 54)), some (.inl x1), some (.inl x2), some (.inl x3), some (.inl x4), some (.inl x5)] (r_.toList ++ [.inl 0, .inr (.inr 90)]) w_) else none) := by
  rw [Lm_unf P0 (M0 Ls) sp_53 14]
  rfl
set_option maxRecDepth 100000 in
theorem E_53_62 (Ls d : Nat) (x1 x2 x3 x4 x5 y0 y1 : Int) (w : AW) : Lm P0 (M0 Ls) d m_E_isOwnCanon 62 [some (.inr (.inr 54)), some (.inl x1), some (.inl x2), some (.inl x3), some (.inl x4), some (.inl x5)] [.inl y0, .inl y1, .inr (.inr 90)] w = (if 0 ≤ y1 ∧ y1 < 9 then Lk P0 (M0 Ls) d m_State_shifted [.inr (.inr 57), .inl (w32 (x5 - x1)), .inl x2, .inl x3] (wC w 89 y1 y0) (fun r_ w_ => Lm P0 (M0 Ls) d m_E_isOwnCanon 84 [some (.inr (.inr 54)), some (.inl x1), some (.inl x2), some (.inl x3), some (.inl x4), some (.inl x5)] (r_.toList ++ [.inl 1, .inr (.inr 89)]) w_) else none) := by
  rw [Lm_unf P0 (M0 Ls) sp_53 14]
  rfl
set_option maxRecDepth 100000 in
theorem E_53_84 (Ls d : Nat) (x1 x2 x3 x4 x5 y0 y1 : Int) (w : AW) : Lm P0 (M0 Ls) d m_E_isOwnCanon 84 [some (.inr (.inr 54)), some (.inl x1), some (.inl x2), some (.inl x3), some (.inl x4), some (.inl x5)] [.inl y0, .inl y1, .inr (.inr 89)] w = (if 0 ≤ y1 ∧ y1 < 9 then Lk P0 (M0 Ls) d m_State_shifted [.inr (.inr 57), .inl (w32 ((w32 (x5 - x1)) - 1)), .inl x2, .inl x3] (wC w 88 y1 y0) (fun r_ w_ => Lm P0 (M0 Ls) d m_E_isOwnCanon 108 [some (.inr (.inr 54)), some (.inl x1), some (.inl x2), some (.inl x3), some (.inl x4), some (.inl x5)] (r_.toList ++ [.inl 1, .inr (.inr 90)]) w_) else none) := by
  rw [Lm_unf P0 (M0 Ls) sp_53 16]
  rfl
set_option maxRecDepth 100000 in
theorem E_53_108 (Ls d : Nat) (x1 x2 x3 x4 x5 y0 y1 : Int) (w : AW) : Lm P0 (M0 Ls) d m_E_isOwnCanon 108 [some (.inr (.inr 54)), some (.inl x1), some (.inl x2), some (.inl x3), some (.inl x4), some (.inl x5)] [.inl y0, .inl y1, .inr (.inr 90)] w = (if 0 ≤ y1 ∧ y1 < 9 then Lk P0 (M0 Ls) d m_Rock_strongAt [.inr (.inr 58), .inl x5] (wC w 89 y1 y0) (fun r_ w_ => Lm P0 (M0 Ls) d m_E_isOwnCanon 125 [some (.inr (.inr 54)), some (.inl x1), some (.inl x2), some (.inl x3), some (.inl x4), some (.inl x5)] (r_.toList ++ [.inr (.inr 88)]) w_) else none) := by
  rw [Lm_unf P0 (M0 Ls) sp_53 9]
  rfl
set_option maxRecDepth 100000 in
theorem E_53_125 (Ls d : Nat) (x1 x2 x3 x4 x5 y0 : Int) (w : AW) : Lm P0 (M0 Ls) d m_E_isOwnCanon 125 [some (.inr (.inr 54)), some (.inl x1), some (.inl x2), some (.inl x3), some (.inl x4), some (.inl x5)] [.inl y0, .inr (.inr 88)] w = Lk P0 (M0 Ls) d m_Judge_firstFault [.inr (.inr 88), .inl y0, .inl 2, .inl 1] w (fun r_ w_ => Lm P0 (M0 Ls) d m_E_isOwnCanon 130 [some (.inr (.inr 54)), some (.inl x1), some (.inl x2), some (.inl x3), some (.inl x4), some (.inl x5)] (r_.toList ++ []) w_) := by
  rw [Lm_unf P0 (M0 Ls) sp_53 4]
  rfl
set_option maxRecDepth 100000 in
theorem E_53_130 (Ls d : Nat) (x1 x2 x3 x4 x5 y0 : Int) (w : AW) : Lm P0 (M0 Ls) d m_E_isOwnCanon 130 [some (.inr (.inr 54)), some (.inl x1), some (.inl x2), some (.inl x3), some (.inl x4), some (.inl x5)] [.inl y0] w = (if y0 = (-1) then Lm P0 (M0 Ls) d m_E_isOwnCanon 14 [some (.inr (.inr 54)), some (.inl x1), some (.inl x2), some (.inl x3), some (.inl x4), some (.inl (w32 (x5 + 1)))] [] w else some (some (.inl 0), w)) := by
  rw [Lm_unf P0 (M0 Ls) sp_53 6]
  rfl
def sp_54 : Nat → Bool := fun q => [0, 8, 30, 50, 57].contains q
set_option maxRecDepth 100000 in
theorem E_54_0 (Ls d : Nat) (p1 p2 : Int) (w : AW) : Lm P0 (M0 Ls) d m_E_drawChoir 0 [some (.inr (.inr 54)), some (.inl p1), some (.inl p2), none] [] w = Lm P0 (M0 Ls) d m_E_drawChoir 8 [some (.inr (.inr 54)), some (.inl p1), some (.inl p2), some (.inl 0)] [] (wC w 53 13 p1) := by
  rw [Lm_unf P0 (M0 Ls) sp_54 8]
  rfl
set_option maxRecDepth 100000 in
theorem E_54_8 (Ls d : Nat) (x1 x2 x3 : Int) (w : AW) : Lm P0 (M0 Ls) d m_E_drawChoir 8 [some (.inr (.inr 54)), some (.inl x1), some (.inl x2), some (.inl x3)] [] w = (if x3 < x2 then (if x3 < 6 then Lk P0 (M0 Ls) d m_E_drawBelow [.inr (.inr 54), .inl 16] w (fun r_ w_ => Lm P0 (M0 Ls) d m_E_drawChoir 30 [some (.inr (.inr 54)), some (.inl x1), some (.inl x2), some (.inl x3)] (r_.toList ++ [.inl x3, .inr (.inr 111)]) w_) else Lm P0 (M0 Ls) d m_E_drawChoir 57 [some (.inr (.inr 54)), some (.inl x1), some (.inl x2), some (.inl x3)] [] w) else Lm P0 (M0 Ls) d m_E_drawChoir 57 [some (.inr (.inr 54)), some (.inl x1), some (.inl x2), some (.inl x3)] [] w) := by
  rw [Lm_unf P0 (M0 Ls) sp_54 13]
  rfl
set_option maxRecDepth 100000 in
theorem E_54_30 (Ls d : Nat) (x1 x2 x3 y0 y1 : Int) (w : AW) : Lm P0 (M0 Ls) d m_E_drawChoir 30 [some (.inr (.inr 54)), some (.inl x1), some (.inl x2), some (.inl x3)] [.inl y0, .inl y1, .inr (.inr 111)] w = (if 0 ≤ y1 ∧ y1 < 6 then Lk P0 (M0 Ls) d m_E_drawBelow [.inr (.inr 54), .inl (rd (wC w 110 y1 y0) 57 0)] (wC w 110 y1 y0) (fun r_ w_ => Lm P0 (M0 Ls) d m_E_drawChoir 50 [some (.inr (.inr 54)), some (.inl x1), some (.inl x2), some (.inl x3)] (r_.toList ++ [.inl x3, .inr (.inr 112)]) w_) else none) := by
  rw [Lm_unf P0 (M0 Ls) sp_54 11]
  rfl
set_option maxRecDepth 100000 in
theorem E_54_50 (Ls d : Nat) (x1 x2 x3 y0 y1 : Int) (w : AW) : Lm P0 (M0 Ls) d m_E_drawChoir 50 [some (.inr (.inr 54)), some (.inl x1), some (.inl x2), some (.inl x3)] [.inl y0, .inl y1, .inr (.inr 112)] w = (if 0 ≤ y1 ∧ y1 < 6 then Lm P0 (M0 Ls) d m_E_drawChoir 8 [some (.inr (.inr 54)), some (.inl x1), some (.inl x2), some (.inl (w32 (x3 + 1)))] [] (wC w 111 y1 y0) else none) := by
  rw [Lm_unf P0 (M0 Ls) sp_54 5]
  rfl
set_option maxRecDepth 100000 in
theorem E_54_57 (Ls d : Nat) (x1 x2 x3 : Int) (w : AW) : Lm P0 (M0 Ls) d m_E_drawChoir 57 [some (.inr (.inr 54)), some (.inl x1), some (.inl x2), some (.inl x3)] [] w = some (none, w) := by
  rw [Lm_unf P0 (M0 Ls) sp_54 2]
  rfl
def sp_55 : Nat → Bool := fun q => [0, 40].contains q
set_option maxRecDepth 100000 in
theorem E_55_0 (Ls d : Nat) (p1 : Int) (w : AW) : Lm P0 (M0 Ls) d m_E_drawBelow 0 [some (.inr (.inr 54)), some (.inl p1)] [] w = (if 0 < p1 then if p1 = 0 then none else Lm P0 (M0 Ls) d m_E_drawBelow 40 [some (.inr (.inr 54)), some (.inl p1)] [.inl (w32 (Int.tmod (w64 (Int.tdiv (rd (wC w 53 13 (Int.tmod (w64 ((w64 ((rd w 53 13) * 1103515245)) + 12345)) 2147483648)) 53 13) 65536)) p1))] (wC w 53 13 (Int.tmod (w64 ((w64 ((rd w 53 13) * 1103515245)) + 12345)) 2147483648)) else Lm P0 (M0 Ls) d m_E_drawBelow 40 [some (.inr (.inr 54)), some (.inl p1)] [.inl 0] (wC w 53 13 (Int.tmod (w64 ((w64 ((rd w 53 13) * 1103515245)) + 12345)) 2147483648))) := by
  rw [Lm_unf P0 (M0 Ls) sp_55 23]
  rfl
set_option maxRecDepth 100000 in
theorem E_55_40 (Ls d : Nat) (x1 y0 : Int) (w : AW) : Lm P0 (M0 Ls) d m_E_drawBelow 40 [some (.inr (.inr 54)), some (.inl x1)] [.inl y0] w = some (some (.inl y0), w) := by
  rw [Lm_unf P0 (M0 Ls) sp_55 2]
  rfl
def sp_56 : Nat → Bool := fun q => [0, 20, 30, 77, 114, 121, 137, 142, 157, 161, 177].contains q
set_option maxRecDepth 100000 in
theorem E_56_0 (Ls d : Nat) (p1 p2 : Int) (w : AW) : Lm P0 (M0 Ls) d m_E_hearChoir 0 [some (.inr (.inr 54)), some (.inl p1), some (.inl p2), none, none, none, none, none] [] w = Lm P0 (M0 Ls) d m_E_hearChoir 20 [some (.inr (.inr 54)), some (.inl p1), some (.inl p2), some (.inl (-1)), some (.inl 0), some (.inl (w32 ((rd w 56 2) + 16))), some (.inl 0), none] [] w := by
  rw [Lm_unf P0 (M0 Ls) sp_56 14]
  rfl
set_option maxRecDepth 100000 in
theorem E_56_20 (Ls d : Nat) (x1 x2 x3 x4 x5 x6 : Int) (u7 : Option AV) (w : AW) : Lm P0 (M0 Ls) d m_E_hearChoir 20 [some (.inr (.inr 54)), some (.inl x1), some (.inl x2), some (.inl x3), some (.inl x4), some (.inl x5), some (.inl x6), u7] [] w = (if x6 < x5 then Lm P0 (M0 Ls) d m_E_hearChoir 30 [some (.inr (.inr 54)), some (.inl x1), some (.inl x2), some (.inl x3), some (.inl x4), some (.inl x5), some (.inl x6), some (.inl 0)] [] w else (if x2 = 0 then Lm P0 (M0 Ls) d m_E_hearChoir 177 [some (.inr (.inr 54)), some (.inl x1), some (.inl x2), some (.inl x3), some (.inl x4), some (.inl x5), some (.inl x6), u7] [.inl x4] w else Lm P0 (M0 Ls) d m_E_hearChoir 177 [some (.inr (.inr 54)), some (.inl x1), some (.inl x2), some (.inl x3), some (.inl x4), some (.inl x5), some (.inl x6), u7] [.inl x3] w)) := by
  rw [Lm_unf P0 (M0 Ls) sp_56 9]
  rfl
set_option maxRecDepth 100000 in
theorem E_56_30 (Ls d : Nat) (x1 x2 x3 x4 x5 x6 x7 : Int) (w : AW) : Lm P0 (M0 Ls) d m_E_hearChoir 30 [some (.inr (.inr 54)), some (.inl x1), some (.inl x2), some (.inl x3), some (.inl x4), some (.inl x5), some (.inl x6), some (.inl x7)] [] w = (if x7 < x1 then (if x7 < 6 then (if 0 ≤ x7 ∧ x7 < 6 then (if 0 ≤ x7 ∧ x7 < 6 then Lk P0 (M0 Ls) d m_State_shifted [.inr (.inr 57), .inl (w32 (x6 - (rd w 110 x7))), .inl 1, .inl (rd w 111 x7)] w (fun r_ w_ => Lm P0 (M0 Ls) d m_E_hearChoir 77 [some (.inr (.inr 54)), some (.inl x1), some (.inl x2), some (.inl x3), some (.inl x4), some (.inl x5), some (.inl x6), some (.inl x7)] (r_.toList ++ [.inl x7, .inr (.inr 89)]) w_) else none) else none) else Lm P0 (M0 Ls) d m_E_hearChoir 121 [some (.inr (.inr 54)), some (.inl x1), some (.inl x2), some (.inl x3), some (.inl x4), some (.inl x5), some (.inl x6), some (.inl x7)] [] w) else Lm P0 (M0 Ls) d m_E_hearChoir 121 [some (.inr (.inr 54)), some (.inl x1), some (.inl x2), some (.inl x3), some (.inl x4), some (.inl x5), some (.inl x6), some (.inl x7)] [] w) := by
  rw [Lm_unf P0 (M0 Ls) sp_56 25]
  rfl
set_option maxRecDepth 100000 in
theorem E_56_77 (Ls d : Nat) (x1 x2 x3 x4 x5 x6 x7 y0 y1 : Int) (w : AW) : Lm P0 (M0 Ls) d m_E_hearChoir 77 [some (.inr (.inr 54)), some (.inl x1), some (.inl x2), some (.inl x3), some (.inl x4), some (.inl x5), some (.inl x6), some (.inl x7)] [.inl y0, .inl y1, .inr (.inr 89)] w = (if 0 ≤ y1 ∧ y1 < 9 then (if 0 ≤ x7 ∧ x7 < 6 then (if 0 ≤ x7 ∧ x7 < 6 then Lk P0 (M0 Ls) d m_State_shifted [.inr (.inr 57), .inl (w32 ((w32 (x6 - 1)) - (rd (wC w 88 y1 y0) 110 x7))), .inl 1, .inl (rd (wC w 88 y1 y0) 111 x7)] (wC w 88 y1 y0) (fun r_ w_ => Lm P0 (M0 Ls) d m_E_hearChoir 114 [some (.inr (.inr 54)), some (.inl x1), some (.inl x2), some (.inl x3), some (.inl x4), some (.inl x5), some (.inl x6), some (.inl x7)] (r_.toList ++ [.inl x7, .inr (.inr 90)]) w_) else none) else none) else none) := by
  rw [Lm_unf P0 (M0 Ls) sp_56 22]
  rfl
set_option maxRecDepth 100000 in
theorem E_56_114 (Ls d : Nat) (x1 x2 x3 x4 x5 x6 x7 y0 y1 : Int) (w : AW) : Lm P0 (M0 Ls) d m_E_hearChoir 114 [some (.inr (.inr 54)), some (.inl x1), some (.inl x2), some (.inl x3), some (.inl x4), some (.inl x5), some (.inl x6), some (.inl x7)] [.inl y0, .inl y1, .inr (.inr 90)] w = (if 0 ≤ y1 ∧ y1 < 9 then Lm P0 (M0 Ls) d m_E_hearChoir 30 [some (.inr (.inr 54)), some (.inl x1), some (.inl x2), some (.inl x3), some (.inl x4), some (.inl x5), some (.inl x6), some (.inl (w32 (x7 + 1)))] [] (wC w 89 y1 y0) else none) := by
  rw [Lm_unf P0 (M0 Ls) sp_56 5]
  rfl
set_option maxRecDepth 100000 in
theorem E_56_121 (Ls d : Nat) (x1 x2 x3 x4 x5 x6 x7 : Int) (w : AW) : Lm P0 (M0 Ls) d m_E_hearChoir 121 [some (.inr (.inr 54)), some (.inl x1), some (.inl x2), some (.inl x3), some (.inl x4), some (.inl x5), some (.inl x6), some (.inl x7)] [] w = Lk P0 (M0 Ls) d m_Rock_strongAt [.inr (.inr 58), .inl x6] w (fun r_ w_ => Lm P0 (M0 Ls) d m_E_hearChoir 137 [some (.inr (.inr 54)), some (.inl x1), some (.inl x2), some (.inl x3), some (.inl x4), some (.inl x5), some (.inl x6), some (.inl x7)] (r_.toList ++ [.inr (.inr 88)]) w_) := by
  rw [Lm_unf P0 (M0 Ls) sp_56 8]
  rfl
set_option maxRecDepth 100000 in
theorem E_56_137 (Ls d : Nat) (x1 x2 x3 x4 x5 x6 x7 y0 : Int) (w : AW) : Lm P0 (M0 Ls) d m_E_hearChoir 137 [some (.inr (.inr 54)), some (.inl x1), some (.inl x2), some (.inl x3), some (.inl x4), some (.inl x5), some (.inl x6), some (.inl x7)] [.inl y0, .inr (.inr 88)] w = Lk P0 (M0 Ls) d m_Judge_firstFault [.inr (.inr 88), .inl y0, .inl x1, .inl 0] w (fun r_ w_ => Lm P0 (M0 Ls) d m_E_hearChoir 142 [some (.inr (.inr 54)), some (.inl x1), some (.inl x2), some (.inl x3), some (.inl x4), some (.inl x5), some (.inl x6), some (.inl x7)] (r_.toList ++ []) w_) := by
  rw [Lm_unf P0 (M0 Ls) sp_56 4]
  rfl
set_option maxRecDepth 100000 in
theorem E_56_142 (Ls d : Nat) (x1 x2 x3 x4 x5 x6 x7 y0 : Int) (w : AW) : Lm P0 (M0 Ls) d m_E_hearChoir 142 [some (.inr (.inr 54)), some (.inl x1), some (.inl x2), some (.inl x3), some (.inl x4), some (.inl x5), some (.inl x6), some (.inl x7)] [.inl y0] w = (if y0 = (-1) then Lm P0 (M0 Ls) d m_E_hearChoir 161 [some (.inr (.inr 54)), some (.inl x1), some (.inl x2), some (.inl x3), some (.inl x4), some (.inl x5), some (.inl x6), some (.inl x7)] [] w else (if x4 = 0 then Lm P0 (M0 Ls) d m_E_hearChoir 157 [some (.inr (.inr 54)), some (.inl x1), some (.inl x2), some (.inl x3), some (.inl x4), some (.inl x5), some (.inl x6), some (.inl x7)] [.inl x6] w else Lm P0 (M0 Ls) d m_E_hearChoir 157 [some (.inr (.inr 54)), some (.inl x1), some (.inl x2), some (.inl x3), some (.inl x4), some (.inl x5), some (.inl x6), some (.inl x7)] [.inl x3] w)) := by
  rw [Lm_unf P0 (M0 Ls) sp_56 8]
  rfl
set_option maxRecDepth 100000 in
theorem E_56_157 (Ls d : Nat) (x1 x2 x3 x4 x5 x6 x7 y0 : Int) (w : AW) : Lm P0 (M0 Ls) d m_E_hearChoir 157 [some (.inr (.inr 54)), some (.inl x1), some (.inl x2), some (.inl x3), some (.inl x4), some (.inl x5), some (.inl x6), some (.inl x7)] [.inl y0] w = Lm P0 (M0 Ls) d m_E_hearChoir 161 [some (.inr (.inr 54)), some (.inl x1), some (.inl x2), some (.inl y0), some (.inl (w32 (x4 + 1))), some (.inl x5), some (.inl x6), some (.inl x7)] [] w := by
  rw [Lm_unf P0 (M0 Ls) sp_56 4]
  rfl
set_option maxRecDepth 100000 in
theorem E_56_161 (Ls d : Nat) (x1 x2 x3 x4 x5 x6 x7 : Int) (w : AW) : Lm P0 (M0 Ls) d m_E_hearChoir 161 [some (.inr (.inr 54)), some (.inl x1), some (.inl x2), some (.inl x3), some (.inl x4), some (.inl x5), some (.inl x6), some (.inl x7)] [] w = Lm P0 (M0 Ls) d m_E_hearChoir 20 [some (.inr (.inr 54)), some (.inl x1), some (.inl x2), some (.inl x3), some (.inl x4), some (.inl x5), some (.inl (w32 (x6 + 1))), some (.inl x7)] [] w := by
  rw [Lm_unf P0 (M0 Ls) sp_56 4]
  rfl
set_option maxRecDepth 100000 in
theorem E_56_177 (Ls d : Nat) (x1 x2 x3 x4 x5 x6 y0 : Int) (u7 : Option AV) (w : AW) : Lm P0 (M0 Ls) d m_E_hearChoir 177 [some (.inr (.inr 54)), some (.inl x1), some (.inl x2), some (.inl x3), some (.inl x4), some (.inl x5), some (.inl x6), u7] [.inl y0] w = some (some (.inl y0), w) := by
  rw [Lm_unf P0 (M0 Ls) sp_56 2]
  rfl
