def sp_121 : Nat → Bool := fun q => [0, 8, 16, 44, 52].contains q
set_option maxRecDepth 100000 in
theorem E_121_0 (Ls d : Nat) (w : AW) : Lm P0 (M0 Ls) d m_Judge_forget 0 [some (.inr (.inr 88))] [] w = Lk P0 (M0 Ls) d m_Arrays_fill [.inr (.inr 93), .inl 0] w (fun r_ w_ => Lm P0 (M0 Ls) d m_Judge_forget 8 [some (.inr (.inr 88))] (r_.toList ++ []) w_) := by
  rw [Lm_unf P0 (M0 Ls) sp_121 5]
  rfl
set_option maxRecDepth 100000 in
theorem E_121_8 (Ls d : Nat) (w : AW) : Lm P0 (M0 Ls) d m_Judge_forget 8 [some (.inr (.inr 88))] [] w = Lk P0 (M0 Ls) d m_Arrays_fill [.inr (.inr 94), .inl 0] w (fun r_ w_ => Lm P0 (M0 Ls) d m_Judge_forget 16 [some (.inr (.inr 88))] (r_.toList ++ []) w_) := by
  rw [Lm_unf P0 (M0 Ls) sp_121 5]
  rfl
set_option maxRecDepth 100000 in
theorem E_121_16 (Ls d : Nat) (w : AW) : Lm P0 (M0 Ls) d m_Judge_forget 16 [some (.inr (.inr 88))] [] w = (if 0 < (rd w 63 2) then (if (rd w 87 7) = 0 then Lm P0 (M0 Ls) d m_Judge_forget 44 [some (.inr (.inr 88))] [] (wC (alloc w 100 4096) 87 7 ((w.1 : Int) + 1)) else (if 0 < (rd w 87 7) then Lm P0 (M0 Ls) d m_Judge_forget 44 [some (.inr (.inr 88))] [] w else none)) else Lm P0 (M0 Ls) d m_Judge_forget 52 [some (.inr (.inr 88))] [] w) := by
  rw [Lm_unf P0 (M0 Ls) sp_121 15]
  rfl
set_option maxRecDepth 100000 in
theorem E_121_44 (Ls d : Nat) (w : AW) : Lm P0 (M0 Ls) d m_Judge_forget 44 [some (.inr (.inr 88))] [] w = Lk P0 (M0 Ls) d m_Arrays_fill [.inr (.inr (rd w 87 7)), .inl 0] w (fun r_ w_ => Lm P0 (M0 Ls) d m_Judge_forget 52 [some (.inr (.inr 88))] (r_.toList ++ []) w_) := by
  rw [Lm_unf P0 (M0 Ls) sp_121 5]
  rfl
set_option maxRecDepth 100000 in
theorem E_121_52 (Ls d : Nat) (w : AW) : Lm P0 (M0 Ls) d m_Judge_forget 52 [some (.inr (.inr 88))] [] w = some (none, w) := by
  rw [Lm_unf P0 (M0 Ls) sp_121 2]
  rfl
def sp_122 : Nat → Bool := fun q => [0].contains q
set_option maxRecDepth 100000 in
theorem E_122_0 (Ls d : Nat) (p1 p2 p3 p4 : Int) (w : AW) : Lm P0 (M0 Ls) d m_Judge_fault 0 [some (.inl p1), some (.inl p2), some (.inl p3), some (.inl p4)] [] w = some (some (.inl (w32 ((w32 ((w32 ((w32 ((w32 ((w32 (p1 * 16)) + p2)) * 4)) + p3)) * 4)) + p4))), w) := by
  rw [Lm_unf P0 (M0 Ls) sp_122 15]
  rfl
def sp_123 : Nat → Bool := fun q => [0].contains q
set_option maxRecDepth 100000 in
theorem E_123_0 (Ls d : Nat) (p1 p2 : Int) (w : AW) : Lm P0 (M0 Ls) d m_Judge_partOfFault 0 [some (.inl p1), some (.inl p2)] [] w = (if p2 = 1 then some (some (.inl (w32 (Int.tdiv p1 256))), w) else (if p2 = 2 then some (some (.inl (Int.tmod (w32 (Int.tdiv p1 16)) 16)), w) else (if p2 = 3 then some (some (.inl (Int.tmod (w32 (Int.tdiv p1 4)) 4)), w) else some (some (.inl (Int.tmod p1 4)), w)))) := by
  rw [Lm_unf P0 (M0 Ls) sp_123 9]
  rfl
def sp_124 : Nat → Bool := fun q => [0, 9, 13, 28, 32, 48].contains q
set_option maxRecDepth 100000 in
theorem E_124_0 (Ls d : Nat) (p1 p2 p3 : Int) (w : AW) : Lm P0 (M0 Ls) d m_Judge_firstFault 0 [some (.inr (.inr 88)), some (.inl p1), some (.inl p2), some (.inl p3), none, none, none] [] w = (if p3 = 0 then Lm P0 (M0 Ls) d m_Judge_firstFault 13 [some (.inr (.inr 88)), some (.inl p1), some (.inl p2), some (.inl p3), none, none, none] [.inl (-1)] w else Lk P0 (M0 Ls) d m_Judge_brokenLeap [.inr (.inr 88), .inl p1] w (fun r_ w_ => Lm P0 (M0 Ls) d m_Judge_firstFault 9 [some (.inr (.inr 88)), some (.inl p1), some (.inl p2), some (.inl p3), none, none, none] (r_.toList ++ []) w_)) := by
  rw [Lm_unf P0 (M0 Ls) sp_124 6]
  rfl
set_option maxRecDepth 100000 in
theorem E_124_9 (Ls d : Nat) (x1 x2 x3 y0 : Int) (w : AW) : Lm P0 (M0 Ls) d m_Judge_firstFault 9 [some (.inr (.inr 88)), some (.inl x1), some (.inl x2), some (.inl x3), none, none, none] [.inl y0] w = Lm P0 (M0 Ls) d m_Judge_firstFault 13 [some (.inr (.inr 88)), some (.inl x1), some (.inl x2), some (.inl x3), none, none, none] [.inl y0] w := by
  rw [Lm_unf P0 (M0 Ls) sp_124 3]
  rfl
set_option maxRecDepth 100000 in
theorem E_124_13 (Ls d : Nat) (x1 x2 x3 y0 : Int) (w : AW) : Lm P0 (M0 Ls) d m_Judge_firstFault 13 [some (.inr (.inr 88)), some (.inl x1), some (.inl x2), some (.inl x3), none, none, none] [.inl y0] w = (if y0 < 0 then Lm P0 (M0 Ls) d m_Judge_firstFault 32 [some (.inr (.inr 88)), some (.inl x1), some (.inl x2), some (.inl x3), some (.inl y0), some (.inl 0), none] [] w else Lk P0 (M0 Ls) d m_Judge_fault [.inl 0, .inl 0, .inl 0, .inl y0] w (fun r_ w_ => Lm P0 (M0 Ls) d m_Judge_firstFault 28 [some (.inr (.inr 88)), some (.inl x1), some (.inl x2), some (.inl x3), some (.inl y0), none, none] (r_.toList ++ []) w_)) := by
  rw [Lm_unf P0 (M0 Ls) sp_124 9]
  rfl
set_option maxRecDepth 100000 in
theorem E_124_28 (Ls d : Nat) (x1 x2 x3 x4 y0 : Int) (w : AW) : Lm P0 (M0 Ls) d m_Judge_firstFault 28 [some (.inr (.inr 88)), some (.inl x1), some (.inl x2), some (.inl x3), some (.inl x4), none, none] [.inl y0] w = some (some (.inl y0), w) := by
  rw [Lm_unf P0 (M0 Ls) sp_124 2]
  rfl
set_option maxRecDepth 100000 in
theorem E_124_32 (Ls d : Nat) (x1 x2 x3 x4 x5 : Int) (u6 : Option AV) (w : AW) : Lm P0 (M0 Ls) d m_Judge_firstFault 32 [some (.inr (.inr 88)), some (.inl x1), some (.inl x2), some (.inl x3), some (.inl x4), some (.inl x5), u6] [] w = (if x5 < (w32 (x2 - 1)) then Lk P0 (M0 Ls) d m_Judge_faultOf [.inr (.inr 88), .inl x5, .inl x2, .inl x1] w (fun r_ w_ => Lm P0 (M0 Ls) d m_Judge_firstFault 48 [some (.inr (.inr 88)), some (.inl x1), some (.inl x2), some (.inl x3), some (.inl x4), some (.inl x5), u6] (r_.toList ++ []) w_) else some (some (.inl (-1)), w)) := by
  rw [Lm_unf P0 (M0 Ls) sp_124 11]
  rfl
set_option maxRecDepth 100000 in
theorem E_124_48 (Ls d : Nat) (x1 x2 x3 x4 x5 y0 : Int) (u6 : Option AV) (w : AW) : Lm P0 (M0 Ls) d m_Judge_firstFault 48 [some (.inr (.inr 88)), some (.inl x1), some (.inl x2), some (.inl x3), some (.inl x4), some (.inl x5), u6] [.inl y0] w = (if y0 = (-1) then Lm P0 (M0 Ls) d m_Judge_firstFault 32 [some (.inr (.inr 88)), some (.inl x1), some (.inl x2), some (.inl x3), some (.inl x4), some (.inl (w32 (x5 + 1))), some (.inl y0)] [] w else some (some (.inl y0), w)) := by
  rw [Lm_unf P0 (M0 Ls) sp_124 8]
  rfl
def sp_125 : Nat → Bool := fun q => [0, 26, 33, 62, 78, 87, 103, 104].contains q
set_option maxRecDepth 100000 in
theorem E_125_0 (Ls d : Nat) (p1 p2 p3 : Int) (w : AW) : Lm P0 (M0 Ls) d m_Judge_faultOf 0 [some (.inr (.inr 88)), some (.inl p1), some (.inl p2), some (.inl p3), none, none] [] w = (if p1 < 0 then Lm P0 (M0 Ls) d m_Judge_faultOf 26 [some (.inr (.inr 88)), some (.inl p1), some (.inl p2), some (.inl p3), none, none] [] w else (if 9 < p2 then Lm P0 (M0 Ls) d m_Judge_faultOf 26 [some (.inr (.inr 88)), some (.inl p1), some (.inl p2), some (.inl p3), none, none] [] w else (if p1 < p2 then (if 0 ≤ p1 ∧ p1 < 9 then (if (rd w 88 p1) = (-1000000) then Lm P0 (M0 Ls) d m_Judge_faultOf 26 [some (.inr (.inr 88)), some (.inl p1), some (.inl p2), some (.inl p3), none, none] [] w else Lm P0 (M0 Ls) d m_Judge_faultOf 33 [some (.inr (.inr 88)), some (.inl p1), some (.inl p2), some (.inl p3), some (.inl (w32 (p1 + 1))), none] [] w) else none) else Lm P0 (M0 Ls) d m_Judge_faultOf 26 [some (.inr (.inr 88)), some (.inl p1), some (.inl p2), some (.inl p3), none, none] [] w))) := by
  rw [Lm_unf P0 (M0 Ls) sp_125 20]
  rfl
set_option maxRecDepth 100000 in
theorem E_125_26 (Ls d : Nat) (x1 x2 x3 : Int) (w : AW) : Lm P0 (M0 Ls) d m_Judge_faultOf 26 [some (.inr (.inr 88)), some (.inl x1), some (.inl x2), some (.inl x3), none, none] [] w = some (some (.inl (-1)), w) := by
  rw [Lm_unf P0 (M0 Ls) sp_125 3]
  rfl
set_option maxRecDepth 100000 in
theorem E_125_33 (Ls d : Nat) (x1 x2 x3 x4 : Int) (u5 : Option AV) (w : AW) : Lm P0 (M0 Ls) d m_Judge_faultOf 33 [some (.inr (.inr 88)), some (.inl x1), some (.inl x2), some (.inl x3), some (.inl x4), u5] [] w = (if x4 < x2 then (if 0 ≤ x4 ∧ x4 < 9 then (if (rd w 88 x4) = (-1000000) then Lm P0 (M0 Ls) d m_Judge_faultOf 104 [some (.inr (.inr 88)), some (.inl x1), some (.inl x2), some (.inl x3), some (.inl x4), u5] [] w else Lk P0 (M0 Ls) d m_Judge_brokenLaw [.inr (.inr 88), .inl x3, .inl x1, .inl x4] w (fun r_ w_ => Lm P0 (M0 Ls) d m_Judge_faultOf 62 [some (.inr (.inr 88)), some (.inl x1), some (.inl x2), some (.inl x3), some (.inl x4), u5] (r_.toList ++ []) w_)) else none) else some (some (.inl (-1)), w)) := by
  rw [Lm_unf P0 (M0 Ls) sp_125 15]
  rfl
set_option maxRecDepth 100000 in
theorem E_125_62 (Ls d : Nat) (x1 x2 x3 x4 y0 : Int) (u5 : Option AV) (w : AW) : Lm P0 (M0 Ls) d m_Judge_faultOf 62 [some (.inr (.inr 88)), some (.inl x1), some (.inl x2), some (.inl x3), some (.inl x4), u5] [.inl y0] w = (if y0 < 0 then Lk P0 (M0 Ls) d m_Judge_brokenPair [.inr (.inr 88), .inl x3, .inl x1, .inl x4] w (fun r_ w_ => Lm P0 (M0 Ls) d m_Judge_faultOf 87 [some (.inr (.inr 88)), some (.inl x1), some (.inl x2), some (.inl x3), some (.inl x4), some (.inl y0)] (r_.toList ++ []) w_) else Lk P0 (M0 Ls) d m_Judge_fault [.inl x1, .inl x4, .inl 1, .inl y0] w (fun r_ w_ => Lm P0 (M0 Ls) d m_Judge_faultOf 78 [some (.inr (.inr 88)), some (.inl x1), some (.inl x2), some (.inl x3), some (.inl x4), some (.inl y0)] (r_.toList ++ []) w_)) := by
  rw [Lm_unf P0 (M0 Ls) sp_125 9]
  rfl
set_option maxRecDepth 100000 in
theorem E_125_78 (Ls d : Nat) (x1 x2 x3 x4 x5 y0 : Int) (w : AW) : Lm P0 (M0 Ls) d m_Judge_faultOf 78 [some (.inr (.inr 88)), some (.inl x1), some (.inl x2), some (.inl x3), some (.inl x4), some (.inl x5)] [.inl y0] w = some (some (.inl y0), w) := by
  rw [Lm_unf P0 (M0 Ls) sp_125 2]
  rfl
set_option maxRecDepth 100000 in
theorem E_125_87 (Ls d : Nat) (x1 x2 x3 x4 x5 y0 : Int) (w : AW) : Lm P0 (M0 Ls) d m_Judge_faultOf 87 [some (.inr (.inr 88)), some (.inl x1), some (.inl x2), some (.inl x3), some (.inl x4), some (.inl x5)] [.inl y0] w = (if y0 < 0 then Lm P0 (M0 Ls) d m_Judge_faultOf 104 [some (.inr (.inr 88)), some (.inl x1), some (.inl x2), some (.inl x3), some (.inl x4), some (.inl y0)] [] w else Lk P0 (M0 Ls) d m_Judge_fault [.inl x1, .inl x4, .inl 2, .inl y0] w (fun r_ w_ => Lm P0 (M0 Ls) d m_Judge_faultOf 103 [some (.inr (.inr 88)), some (.inl x1), some (.inl x2), some (.inl x3), some (.inl x4), some (.inl y0)] (r_.toList ++ []) w_)) := by
  rw [Lm_unf P0 (M0 Ls) sp_125 9]
  rfl
set_option maxRecDepth 100000 in
theorem E_125_103 (Ls d : Nat) (x1 x2 x3 x4 x5 y0 : Int) (w : AW) : Lm P0 (M0 Ls) d m_Judge_faultOf 103 [some (.inr (.inr 88)), some (.inl x1), some (.inl x2), some (.inl x3), some (.inl x4), some (.inl x5)] [.inl y0] w = some (some (.inl y0), w) := by
  rw [Lm_unf P0 (M0 Ls) sp_125 2]
  rfl
set_option maxRecDepth 100000 in
theorem E_125_104 (Ls d : Nat) (x1 x2 x3 x4 : Int) (u5 : Option AV) (w : AW) : Lm P0 (M0 Ls) d m_Judge_faultOf 104 [some (.inr (.inr 88)), some (.inl x1), some (.inl x2), some (.inl x3), some (.inl x4), u5] [] w = Lm P0 (M0 Ls) d m_Judge_faultOf 33 [some (.inr (.inr 88)), some (.inl x1), some (.inl x2), some (.inl x3), some (.inl (w32 (x4 + 1))), u5] [] w := by
  rw [Lm_unf P0 (M0 Ls) sp_125 4]
  rfl
def sp_126 : Nat → Bool := fun q => [0, 34, 86, 91, 112, 114].contains q
set_option maxRecDepth 100000 in
theorem E_126_0 (Ls d : Nat) (p1 : Int) (w : AW) : Lm P0 (M0 Ls) d m_Judge_brokenLeap 0 [some (.inr (.inr 88)), some (.inl p1), none] [] w = (if (rd w 63 0) = 0 then Lm P0 (M0 Ls) d m_Judge_brokenLeap 34 [some (.inr (.inr 88)), some (.inl p1), none] [] w else (if (rd w 88 0) = (-1000000) then Lm P0 (M0 Ls) d m_Judge_brokenLeap 34 [some (.inr (.inr 88)), some (.inl p1), none] [] w else (if (rd w 89 0) = (-1000000) then Lm P0 (M0 Ls) d m_Judge_brokenLeap 34 [some (.inr (.inr 88)), some (.inl p1), none] [] w else (if (w32 ((w32 (2 * (w32 ((rd (wC (wC w 90 0 p1) 90 3 (w32 ((rd (wC w 90 0 p1) 88 0) - (rd (wC w 90 0 p1) 89 0)))) 90 3) + 16)))) + p1)) < 0 then Lm P0 (M0 Ls) d m_Judge_brokenLeap 86 [some (.inr (.inr 88)), some (.inl p1), some (.inl (w32 ((w32 (2 * (w32 ((rd (wC (wC w 90 0 p1) 90 3 (w32 ((rd (wC w 90 0 p1) 88 0) - (rd (wC w 90 0 p1) 89 0)))) 90 3) + 16)))) + p1)))] [] (wC (wC w 90 0 p1) 90 3 (w32 ((rd (wC w 90 0 p1) 88 0) - (rd (wC w 90 0 p1) 89 0)))) else (if (w32 ((w32 (2 * (w32 ((rd (wC (wC w 90 0 p1) 90 3 (w32 ((rd (wC w 90 0 p1) 88 0) - (rd (wC w 90 0 p1) 89 0)))) 90 3) + 16)))) + p1)) < 64 then (if 0 ≤ (w32 ((w32 (2 * (w32 ((rd (wC (wC w 90 0 p1) 90 3 (w32 ((rd (wC w 90 0 p1) 88 0) - (rd (wC w 90 0 p1) 89 0)))) 90 3) + 16)))) + p1)) ∧ (w32 ((w32 (2 * (w32 ((rd (wC (wC w 90 0 p1) 90 3 (w32 ((rd (wC w 90 0 p1) 88 0) - (rd (wC w 90 0 p1) 89 0)))) 90 3) + 16)))) + p1)) < 64 then (if (rd (wC (wC w 90 0 p1) 90 3 (w32 ((rd (wC w 90 0 p1) 88 0) - (rd (wC w 90 0 p1) 89 0)))) 92 (w32 ((w32 (2 * (w32 ((rd (wC (wC w 90 0 p1) 90 3 (w32 ((rd (wC w 90 0 p1) 88 0) - (rd (wC w 90 0 p1) 89 0)))) 90 3) + 16)))) + p1))) = 0 then Lk P0 (M0 Ls) d m_Judge_firstBroken [.inr (.inr 88), .inl 0] (wC (wC w 90 0 p1) 90 3 (w32 ((rd (wC w 90 0 p1) 88 0) - (rd (wC w 90 0 p1) 89 0)))) (fun r_ w_ => Lm P0 (M0 Ls) d m_Judge_brokenLeap 112 [some (.inr (.inr 88)), some (.inl p1), some (.inl (w32 ((w32 (2 * (w32 ((rd (wC (wC w 90 0 p1) 90 3 (w32 ((rd (wC w 90 0 p1) 88 0) - (rd (wC w 90 0 p1) 89 0)))) 90 3) + 16)))) + p1)))] (r_.toList ++ [.inl 2, .inl (w32 ((w32 (2 * (w32 ((rd (wC (wC w 90 0 p1) 90 3 (w32 ((rd (wC w 90 0 p1) 88 0) - (rd (wC w 90 0 p1) 89 0)))) 90 3) + 16)))) + p1)), .inr (.inr 93)]) w_) else Lm P0 (M0 Ls) d m_Judge_brokenLeap 114 [some (.inr (.inr 88)), some (.inl p1), some (.inl (w32 ((w32 (2 * (w32 ((rd (wC (wC w 90 0 p1) 90 3 (w32 ((rd (wC w 90 0 p1) 88 0) - (rd (wC w 90 0 p1) 89 0)))) 90 3) + 16)))) + p1)))] [] (wC (wC w 90 0 p1) 90 3 (w32 ((rd (wC w 90 0 p1) 88 0) - (rd (wC w 90 0 p1) 89 0))))) else none) else Lm P0 (M0 Ls) d m_Judge_brokenLeap 86 [some (.inr (.inr 88)), some (.inl p1), some (.inl (w32 ((w32 (2 * (w32 ((rd (wC (wC w 90 0 p1) 90 3 (w32 ((rd (wC w 90 0 p1) 88 0) - (rd (wC w 90 0 p1) 89 0)))) 90 3) + 16)))) + p1)))] [] (wC (wC w 90 0 p1) 90 3 (w32 ((rd (wC w 90 0 p1) 88 0) - (rd (wC w 90 0 p1) 89 0))))))))) := by
  rw [Lm_unf P0 (M0 Ls) sp_126 65]
  rfl
set_option maxRecDepth 100000 in
theorem E_126_34 (Ls d : Nat) (x1 : Int) (w : AW) : Lm P0 (M0 Ls) d m_Judge_brokenLeap 34 [some (.inr (.inr 88)), some (.inl x1), none] [] w = some (some (.inl (-1)), w) := by
  rw [Lm_unf P0 (M0 Ls) sp_126 3]
  rfl
set_option maxRecDepth 100000 in
theorem E_126_86 (Ls d : Nat) (x1 x2 : Int) (w : AW) : Lm P0 (M0 Ls) d m_Judge_brokenLeap 86 [some (.inr (.inr 88)), some (.inl x1), some (.inl x2)] [] w = Lk P0 (M0 Ls) d m_Judge_firstBroken [.inr (.inr 88), .inl 0] w (fun r_ w_ => Lm P0 (M0 Ls) d m_Judge_brokenLeap 91 [some (.inr (.inr 88)), some (.inl x1), some (.inl x2)] (r_.toList ++ []) w_) := by
  rw [Lm_unf P0 (M0 Ls) sp_126 4]
  rfl
set_option maxRecDepth 100000 in
theorem E_126_91 (Ls d : Nat) (x1 x2 y0 : Int) (w : AW) : Lm P0 (M0 Ls) d m_Judge_brokenLeap 91 [some (.inr (.inr 88)), some (.inl x1), some (.inl x2)] [.inl y0] w = some (some (.inl y0), w) := by
  rw [Lm_unf P0 (M0 Ls) sp_126 2]
  rfl
set_option maxRecDepth 100000 in
theorem E_126_112 (Ls d : Nat) (x1 x2 y0 y1 y2 : Int) (w : AW) : Lm P0 (M0 Ls) d m_Judge_brokenLeap 112 [some (.inr (.inr 88)), some (.inl x1), some (.inl x2)] [.inl y0, .inl y1, .inl y2, .inr (.inr 93)] w = (if 0 ≤ y2 ∧ y2 < 64 then Lm P0 (M0 Ls) d m_Judge_brokenLeap 114 [some (.inr (.inr 88)), some (.inl x1), some (.inl x2)] [] (wC w 92 y2 (w32 (y1 + y0))) else none) := by
  rw [Lm_unf P0 (M0 Ls) sp_126 4]
  rfl
set_option maxRecDepth 100000 in
theorem E_126_114 (Ls d : Nat) (x1 x2 : Int) (w : AW) : Lm P0 (M0 Ls) d m_Judge_brokenLeap 114 [some (.inr (.inr 88)), some (.inl x1), some (.inl x2)] [] w = (if 0 ≤ x2 ∧ x2 < 64 then some (some (.inl (w32 ((rd w 92 x2) - 2))), w) else none) := by
  rw [Lm_unf P0 (M0 Ls) sp_126 8]
  rfl
def sp_127 : Nat → Bool := fun q => [0, 42, 68, 73, 96, 98].contains q
set_option maxRecDepth 100000 in
theorem E_127_0 (Ls d : Nat) (p1 p2 p3 : Int) (w : AW) : Lm P0 (M0 Ls) d m_Judge_brokenLaw 0 [some (.inr (.inr 88)), some (.inl p1), some (.inl p2), some (.inl p3), none] [] w = (if (rd w 63 1) = 0 then some (some (.inl (-1)), w) else (if 0 ≤ p2 ∧ p2 < 9 then (if 0 ≤ p3 ∧ p3 < 9 then Lk P0 (M0 Ls) d m_Math_abs [.inl (w32 ((rd (wC w 90 0 p1) 88 p2) - (rd (wC w 90 0 p1) 88 p3)))] (wC w 90 0 p1) (fun r_ w_ => Lm P0 (M0 Ls) d m_Judge_brokenLaw 42 [some (.inr (.inr 88)), some (.inl p1), some (.inl p2), some (.inl p3), none] (r_.toList ++ [.inl 1, .inr (.inr 91)]) w_) else none) else none)) := by
  rw [Lm_unf P0 (M0 Ls) sp_127 25]
  rfl
set_option maxRecDepth 100000 in
theorem E_127_42 (Ls d : Nat) (x1 x2 x3 y0 y1 : Int) (w : AW) : Lm P0 (M0 Ls) d m_Judge_brokenLaw 42 [some (.inr (.inr 88)), some (.inl x1), some (.inl x2), some (.inl x3), none] [.inl y0, .inl y1, .inr (.inr 91)] w = (if 0 ≤ y1 ∧ y1 < 5 then (if (w32 ((w32 (2 * (rd (wC w 90 y1 y0) 90 1))) + x1)) < 0 then Lm P0 (M0 Ls) d m_Judge_brokenLaw 68 [some (.inr (.inr 88)), some (.inl x1), some (.inl x2), some (.inl x3), some (.inl (w32 ((w32 (2 * (rd (wC w 90 y1 y0) 90 1))) + x1)))] [] (wC w 90 y1 y0) else (if (w32 ((w32 (2 * (rd (wC w 90 y1 y0) 90 1))) + x1)) < 256 then (if 0 ≤ (w32 ((w32 (2 * (rd (wC w 90 y1 y0) 90 1))) + x1)) ∧ (w32 ((w32 (2 * (rd (wC w 90 y1 y0) 90 1))) + x1)) < 256 then (if (rd (wC w 90 y1 y0) 93 (w32 ((w32 (2 * (rd (wC w 90 y1 y0) 90 1))) + x1))) = 0 then Lk P0 (M0 Ls) d m_Judge_firstBroken [.inr (.inr 88), .inl 1] (wC w 90 y1 y0) (fun r_ w_ => Lm P0 (M0 Ls) d m_Judge_brokenLaw 96 [some (.inr (.inr 88)), some (.inl x1), some (.inl x2), some (.inl x3), some (.inl (w32 ((w32 (2 * (rd (wC w 90 y1 y0) 90 1))) + x1)))] (r_.toList ++ [.inl 2, .inl (w32 ((w32 (2 * (rd (wC w 90 y1 y0) 90 1))) + x1)), .inr (.inr 94)]) w_) else Lm P0 (M0 Ls) d m_Judge_brokenLaw 98 [some (.inr (.inr 88)), some (.inl x1), some (.inl x2), some (.inl x3), some (.inl (w32 ((w32 (2 * (rd (wC w 90 y1 y0) 90 1))) + x1)))] [] (wC w 90 y1 y0)) else none) else Lm P0 (M0 Ls) d m_Judge_brokenLaw 68 [some (.inr (.inr 88)), some (.inl x1), some (.inl x2), some (.inl x3), some (.inl (w32 ((w32 (2 * (rd (wC w 90 y1 y0) 90 1))) + x1)))] [] (wC w 90 y1 y0))) else none) := by
  rw [Lm_unf P0 (M0 Ls) sp_127 28]
  rfl
set_option maxRecDepth 100000 in
theorem E_127_68 (Ls d : Nat) (x1 x2 x3 x4 : Int) (w : AW) : Lm P0 (M0 Ls) d m_Judge_brokenLaw 68 [some (.inr (.inr 88)), some (.inl x1), some (.inl x2), some (.inl x3), some (.inl x4)] [] w = Lk P0 (M0 Ls) d m_Judge_firstBroken [.inr (.inr 88), .inl 1] w (fun r_ w_ => Lm P0 (M0 Ls) d m_Judge_brokenLaw 73 [some (.inr (.inr 88)), some (.inl x1), some (.inl x2), some (.inl x3), some (.inl x4)] (r_.toList ++ []) w_) := by
  rw [Lm_unf P0 (M0 Ls) sp_127 4]
  rfl
set_option maxRecDepth 100000 in
theorem E_127_73 (Ls d : Nat) (x1 x2 x3 x4 y0 : Int) (w : AW) : Lm P0 (M0 Ls) d m_Judge_brokenLaw 73 [some (.inr (.inr 88)), some (.inl x1), some (.inl x2), some (.inl x3), some (.inl x4)] [.inl y0] w = some (some (.inl y0), w) := by
  rw [Lm_unf P0 (M0 Ls) sp_127 2]
  rfl
set_option maxRecDepth 100000 in
theorem E_127_96 (Ls d : Nat) (x1 x2 x3 x4 y0 y1 y2 : Int) (w : AW) : Lm P0 (M0 Ls) d m_Judge_brokenLaw 96 [some (.inr (.inr 88)), some (.inl x1), some (.inl x2), some (.inl x3), some (.inl x4)] [.inl y0, .inl y1, .inl y2, .inr (.inr 94)] w = (if 0 ≤ y2 ∧ y2 < 256 then Lm P0 (M0 Ls) d m_Judge_brokenLaw 98 [some (.inr (.inr 88)), some (.inl x1), some (.inl x2), some (.inl x3), some (.inl x4)] [] (wC w 93 y2 (w32 (y1 + y0))) else none) := by
  rw [Lm_unf P0 (M0 Ls) sp_127 4]
  rfl
set_option maxRecDepth 100000 in
theorem E_127_98 (Ls d : Nat) (x1 x2 x3 x4 : Int) (w : AW) : Lm P0 (M0 Ls) d m_Judge_brokenLaw 98 [some (.inr (.inr 88)), some (.inl x1), some (.inl x2), some (.inl x3), some (.inl x4)] [] w = (if 0 ≤ x4 ∧ x4 < 256 then some (some (.inl (w32 ((rd w 93 x4) - 2))), w) else none) := by
  rw [Lm_unf P0 (M0 Ls) sp_127 8]
  rfl
def sp_128 : Nat → Bool := fun q => [0, 34, 64, 86, 129, 143, 148, 172, 197, 214, 216].contains q
set_option maxRecDepth 100000 in
theorem E_128_0 (Ls d : Nat) (p1 p2 p3 : Int) (w : AW) : Lm P0 (M0 Ls) d m_Judge_brokenPair 0 [some (.inr (.inr 88)), some (.inl p1), some (.inl p2), some (.inl p3), none, none] [] w = (if (rd w 63 2) = 0 then Lm P0 (M0 Ls) d m_Judge_brokenPair 34 [some (.inr (.inr 88)), some (.inl p1), some (.inl p2), some (.inl p3), none, none] [] w else (if 0 ≤ p2 ∧ p2 < 9 then (if (rd w 89 p2) = (-1000000) then Lm P0 (M0 Ls) d m_Judge_brokenPair 34 [some (.inr (.inr 88)), some (.inl p1), some (.inl p2), some (.inl p3), none, none] [] w else (if 0 ≤ p3 ∧ p3 < 9 then (if (rd w 89 p3) = (-1000000) then Lm P0 (M0 Ls) d m_Judge_brokenPair 34 [some (.inr (.inr 88)), some (.inl p1), some (.inl p2), some (.inl p3), none, none] [] w else (if 0 ≤ p2 ∧ p2 < 9 then (if 0 ≤ p3 ∧ p3 < 9 then Lk P0 (M0 Ls) d m_Math_abs [.inl (w32 ((rd (wC w 90 0 p1) 88 p2) - (rd (wC w 90 0 p1) 88 p3)))] (wC w 90 0 p1) (fun r_ w_ => Lm P0 (M0 Ls) d m_Judge_brokenPair 64 [some (.inr (.inr 88)), some (.inl p1), some (.inl p2), some (.inl p3), none, none] (r_.toList ++ [.inl 1, .inr (.inr 91)]) w_) else none) else none)) else none)) else none)) := by
  rw [Lm_unf P0 (M0 Ls) sp_128 37]
  rfl
set_option maxRecDepth 100000 in
theorem E_128_34 (Ls d : Nat) (x1 x2 x3 : Int) (w : AW) : Lm P0 (M0 Ls) d m_Judge_brokenPair 34 [some (.inr (.inr 88)), some (.inl x1), some (.inl x2), some (.inl x3), none, none] [] w = some (some (.inl (-1)), w) := by
  rw [Lm_unf P0 (M0 Ls) sp_128 3]
  rfl
set_option maxRecDepth 100000 in
theorem E_128_64 (Ls d : Nat) (x1 x2 x3 y0 y1 : Int) (w : AW) : Lm P0 (M0 Ls) d m_Judge_brokenPair 64 [some (.inr (.inr 88)), some (.inl x1), some (.inl x2), some (.inl x3), none, none] [.inl y0, .inl y1, .inr (.inr 91)] w = (if 0 ≤ y1 ∧ y1 < 5 then (if 0 ≤ x2 ∧ x2 < 9 then (if 0 ≤ x3 ∧ x3 < 9 then Lk P0 (M0 Ls) d m_Math_abs [.inl (w32 ((rd (wC w 90 y1 y0) 89 x2) - (rd (wC w 90 y1 y0) 89 x3)))] (wC w 90 y1 y0) (fun r_ w_ => Lm P0 (M0 Ls) d m_Judge_brokenPair 86 [some (.inr (.inr 88)), some (.inl x1), some (.inl x2), some (.inl x3), none, none] (r_.toList ++ [.inl 2, .inr (.inr 91)]) w_) else none) else none) else none) := by
  rw [Lm_unf P0 (M0 Ls) sp_128 15]
  rfl
set_option maxRecDepth 100000 in
theorem E_128_86 (Ls d : Nat) (x1 x2 x3 y0 y1 : Int) (w : AW) : Lm P0 (M0 Ls) d m_Judge_brokenPair 86 [some (.inr (.inr 88)), some (.inl x1), some (.inl x2), some (.inl x3), none, none] [.inl y0, .inl y1, .inr (.inr 91)] w = (if 0 ≤ y1 ∧ y1 < 5 then (if 0 ≤ x2 ∧ x2 < 9 then (if 0 ≤ x2 ∧ x2 < 9 then (if 0 ≤ x3 ∧ x3 < 9 then (if 0 ≤ x3 ∧ x3 < 9 then Lk P0 (M0 Ls) d m_Judge_pairKey [.inr (.inr 88)] (wC (wC (wC w 90 y1 y0) 90 3 (w32 ((rd (wC w 90 y1 y0) 88 x2) - (rd (wC w 90 y1 y0) 89 x2)))) 90 4 (w32 ((rd (wC (wC w 90 y1 y0) 90 3 (w32 ((rd (wC w 90 y1 y0) 88 x2) - (rd (wC w 90 y1 y0) 89 x2)))) 88 x3) - (rd (wC (wC w 90 y1 y0) 90 3 (w32 ((rd (wC w 90 y1 y0) 88 x2) - (rd (wC w 90 y1 y0) 89 x2)))) 89 x3)))) (fun r_ w_ => Lm P0 (M0 Ls) d m_Judge_brokenPair 129 [some (.inr (.inr 88)), some (.inl x1), some (.inl x2), some (.inl x3), none, none] (r_.toList ++ []) w_) else none) else none) else none) else none) else none) := by
  rw [Lm_unf P0 (M0 Ls) sp_128 30]
  rfl
set_option maxRecDepth 100000 in
theorem E_128_129 (Ls d : Nat) (x1 x2 x3 y0 : Int) (w : AW) : Lm P0 (M0 Ls) d m_Judge_brokenPair 129 [some (.inr (.inr 88)), some (.inl x1), some (.inl x2), some (.inl x3), none, none] [.inl y0] w = (if y0 < 0 then Lm P0 (M0 Ls) d m_Judge_brokenPair 143 [some (.inr (.inr 88)), some (.inl x1), some (.inl x2), some (.inl x3), some (.inl y0), none] [] w else (if (rd w 87 7) = 0 then Lm P0 (M0 Ls) d m_Judge_brokenPair 143 [some (.inr (.inr 88)), some (.inl x1), some (.inl x2), some (.inl x3), some (.inl y0), none] [] w else (if 0 < (rd w 87 7) then (if (i32 (fun x y => (x.toUInt32 >>> (y.toUInt32 &&& Int32.toUInt32 31)).toInt32) (w32 (y0 * (-1640531535))) 20) < 4096 then (arN (M0 Ls) w (rd w 87 7) 100 110 110 none (fun a1 n1 => (if (0 : Int) ≤ (i32 (fun x y => (x.toUInt32 >>> (y.toUInt32 &&& Int32.toUInt32 31)).toInt32) (w32 (y0 * (-1640531535))) 20) ∧ (i32 (fun x y => (x.toUInt32 >>> (y.toUInt32 &&& Int32.toUInt32 31)).toInt32) (w32 (y0 * (-1640531535))) 20) < (n1 : Int) then (if (w32 (Int.tdiv (rd w a1 (i32 (fun x y => (x.toUInt32 >>> (y.toUInt32 &&& Int32.toUInt32 31)).toInt32) (w32 (y0 * (-1640531535))) 20)) 4)) = y0 then (arN (M0 Ls) w (rd w 87 7) 100 110 110 none (fun a2 n2 => (if (0 : Int) ≤ (i32 (fun x y => (x.toUInt32 >>> (y.toUInt32 &&& Int32.toUInt32 31)).toInt32) (w32 (y0 * (-1640531535))) 20) ∧ (i32 (fun x y => (x.toUInt32 >>> (y.toUInt32 &&& Int32.toUInt32 31)).toInt32) (w32 (y0 * (-1640531535))) 20) < (n2 : Int) then (if (rd w a2 (i32 (fun x y => (x.toUInt32 >>> (y.toUInt32 &&& Int32.toUInt32 31)).toInt32) (w32 (y0 * (-1640531535))) 20)) = 0 then Lm P0 (M0 Ls) d m_Judge_brokenPair 197 [some (.inr (.inr 88)), some (.inl x1), some (.inl x2), some (.inl x3), some (.inl y0), some (.inl (i32 (fun x y => (x.toUInt32 >>> (y.toUInt32 &&& Int32.toUInt32 31)).toInt32) (w32 (y0 * (-1640531535))) 20))] [] w else Lm P0 (M0 Ls) d m_Judge_brokenPair 216 [some (.inr (.inr 88)), some (.inl x1), some (.inl x2), some (.inl x3), some (.inl y0), some (.inl (i32 (fun x y => (x.toUInt32 >>> (y.toUInt32 &&& Int32.toUInt32 31)).toInt32) (w32 (y0 * (-1640531535))) 20))] [] w) else none))) else Lm P0 (M0 Ls) d m_Judge_brokenPair 197 [some (.inr (.inr 88)), some (.inl x1), some (.inl x2), some (.inl x3), some (.inl y0), some (.inl (i32 (fun x y => (x.toUInt32 >>> (y.toUInt32 &&& Int32.toUInt32 31)).toInt32) (w32 (y0 * (-1640531535))) 20))] [] w) else none))) else Lk P0 (M0 Ls) d m_Judge_firstBroken [.inr (.inr 88), .inl 2] w (fun r_ w_ => Lm P0 (M0 Ls) d m_Judge_brokenPair 172 [some (.inr (.inr 88)), some (.inl x1), some (.inl x2), some (.inl x3), some (.inl y0), some (.inl (i32 (fun x y => (x.toUInt32 >>> (y.toUInt32 &&& Int32.toUInt32 31)).toInt32) (w32 (y0 * (-1640531535))) 20))] (r_.toList ++ []) w_)) else none))) := by
  rw [Lm_unf P0 (M0 Ls) sp_128 30]
  rfl
set_option maxRecDepth 100000 in
theorem E_128_143 (Ls d : Nat) (x1 x2 x3 x4 : Int) (w : AW) : Lm P0 (M0 Ls) d m_Judge_brokenPair 143 [some (.inr (.inr 88)), some (.inl x1), some (.inl x2), some (.inl x3), some (.inl x4), none] [] w = Lk P0 (M0 Ls) d m_Judge_firstBroken [.inr (.inr 88), .inl 2] w (fun r_ w_ => Lm P0 (M0 Ls) d m_Judge_brokenPair 148 [some (.inr (.inr 88)), some (.inl x1), some (.inl x2), some (.inl x3), some (.inl x4), none] (r_.toList ++ []) w_) := by
  rw [Lm_unf P0 (M0 Ls) sp_128 4]
  rfl
set_option maxRecDepth 100000 in
theorem E_128_148 (Ls d : Nat) (x1 x2 x3 x4 y0 : Int) (w : AW) : Lm P0 (M0 Ls) d m_Judge_brokenPair 148 [some (.inr (.inr 88)), some (.inl x1), some (.inl x2), some (.inl x3), some (.inl x4), none] [.inl y0] w = some (some (.inl y0), w) := by
  rw [Lm_unf P0 (M0 Ls) sp_128 2]
  rfl
set_option maxRecDepth 100000 in
theorem E_128_172 (Ls d : Nat) (x1 x2 x3 x4 x5 y0 : Int) (w : AW) : Lm P0 (M0 Ls) d m_Judge_brokenPair 172 [some (.inr (.inr 88)), some (.inl x1), some (.inl x2), some (.inl x3), some (.inl x4), some (.inl x5)] [.inl y0] w = some (some (.inl y0), w) := by
  rw [Lm_unf P0 (M0 Ls) sp_128 2]
  rfl
set_option maxRecDepth 100000 in
theorem E_128_197 (Ls d : Nat) (x1 x2 x3 x4 x5 : Int) (w : AW) : Lm P0 (M0 Ls) d m_Judge_brokenPair 197 [some (.inr (.inr 88)), some (.inl x1), some (.inl x2), some (.inl x3), some (.inl x4), some (.inl x5)] [] w = Lk P0 (M0 Ls) d m_Judge_firstBroken [.inr (.inr 88), .inl 2] w (fun r_ w_ => Lm P0 (M0 Ls) d m_Judge_brokenPair 214 [some (.inr (.inr 88)), some (.inl x1), some (.inl x2), some (.inl x3), some (.inl x4), some (.inl x5)] (r_.toList ++ [.inl (w32 ((w32 (4 * x4)) + 2)), .inl x5, .inr (.inr (rd w 87 7))]) w_) := by
  rw [Lm_unf P0 (M0 Ls) sp_128 12]
  rfl
set_option maxRecDepth 100000 in
theorem E_128_214 (Ls d : Nat) (x1 x2 x3 x4 x5 y0 y1 y2 y3 : Int) (w : AW) : Lm P0 (M0 Ls) d m_Judge_brokenPair 214 [some (.inr (.inr 88)), some (.inl x1), some (.inl x2), some (.inl x3), some (.inl x4), some (.inl x5)] [.inl y0, .inl y1, .inl y2, .inr (.inr y3)] w = (arN (M0 Ls) w y3 100 100 100 none (fun a1 n1 => (if (0 : Int) ≤ y2 ∧ y2 < (n1 : Int) then Lm P0 (M0 Ls) d m_Judge_brokenPair 216 [some (.inr (.inr 88)), some (.inl x1), some (.inl x2), some (.inl x3), some (.inl x4), some (.inl x5)] [] (wC w a1 y2 (w32 (y1 + y0))) else none))) := by
  rw [Lm_unf P0 (M0 Ls) sp_128 4]
  rfl
set_option maxRecDepth 100000 in
theorem E_128_216 (Ls d : Nat) (x1 x2 x3 x4 x5 : Int) (w : AW) : Lm P0 (M0 Ls) d m_Judge_brokenPair 216 [some (.inr (.inr 88)), some (.inl x1), some (.inl x2), some (.inl x3), some (.inl x4), some (.inl x5)] [] w = (arN (M0 Ls) w (rd w 87 7) 100 110 110 none (fun a1 n1 => (if (0 : Int) ≤ x5 ∧ x5 < (n1 : Int) then some (some (.inl (w32 ((Int.tmod (rd w a1 x5) 4) - 2))), w) else none))) := by
  rw [Lm_unf P0 (M0 Ls) sp_128 10]
  rfl
def sp_129 : Nat → Bool := fun q => [0, 44, 66].contains q
set_option maxRecDepth 100000 in
theorem E_129_0 (Ls d : Nat) (w : AW) : Lm P0 (M0 Ls) d m_Judge_pairKey 0 [some (.inr (.inr 88)), none, none, none] [] w = (if (rd w 90 1) < 128 then (if (rd w 90 2) < 128 then (if (w32 ((rd w 90 3) + 16)) < 0 then Lm P0 (M0 Ls) d m_Judge_pairKey 66 [some (.inr (.inr 88)), some (.inl (w32 ((rd w 90 3) + 16))), some (.inl (w32 ((rd w 90 4) + 16))), none] [] w else (if (w32 ((rd w 90 3) + 16)) < 32 then (if (w32 ((rd w 90 4) + 16)) < 0 then Lm P0 (M0 Ls) d m_Judge_pairKey 66 [some (.inr (.inr 88)), some (.inl (w32 ((rd w 90 3) + 16))), some (.inl (w32 ((rd w 90 4) + 16))), none] [] w else (if (w32 ((rd w 90 4) + 16)) < 32 then some (some (.inl (w32 ((w32 ((w32 ((w32 ((w32 ((w32 ((w32 ((w32 ((rd w 90 1) * 128)) + (rd w 90 2))) * 32)) + (w32 ((rd w 90 3) + 16)))) * 32)) + (w32 ((rd w 90 4) + 16)))) * 2)) + (rd w 90 0)))), w) else Lm P0 (M0 Ls) d m_Judge_pairKey 66 [some (.inr (.inr 88)), some (.inl (w32 ((rd w 90 3) + 16))), some (.inl (w32 ((rd w 90 4) + 16))), none] [] w)) else Lm P0 (M0 Ls) d m_Judge_pairKey 66 [some (.inr (.inr 88)), some (.inl (w32 ((rd w 90 3) + 16))), some (.inl (w32 ((rd w 90 4) + 16))), none] [] w)) else Lm P0 (M0 Ls) d m_Judge_pairKey 44 [some (.inr (.inr 88)), some (.inl (w32 ((rd w 90 3) + 16))), some (.inl (w32 ((rd w 90 4) + 16))), none] [] w) else Lm P0 (M0 Ls) d m_Judge_pairKey 44 [some (.inr (.inr 88)), some (.inl (w32 ((rd w 90 3) + 16))), some (.inl (w32 ((rd w 90 4) + 16))), none] [] w) := by
  rw [Lm_unf P0 (M0 Ls) sp_129 66]
  rfl
set_option maxRecDepth 100000 in
theorem E_129_44 (Ls d : Nat) (x1 x2 : Int) (w : AW) : Lm P0 (M0 Ls) d m_Judge_pairKey 44 [some (.inr (.inr 88)), some (.inl x1), some (.inl x2), none] [] w = some (some (.inl (-1)), w) := by
  rw [Lm_unf P0 (M0 Ls) sp_129 3]
  rfl
set_option maxRecDepth 100000 in
theorem E_129_66 (Ls d : Nat) (x1 x2 : Int) (w : AW) : Lm P0 (M0 Ls) d m_Judge_pairKey 66 [some (.inr (.inr 88)), some (.inl x1), some (.inl x2), none] [] w = some (some (.inl (-1)), w) := by
  rw [Lm_unf P0 (M0 Ls) sp_129 3]
  rfl
def sp_130 : Nat → Bool := fun q => [0, 2, 21, 24].contains q
set_option maxRecDepth 100000 in
theorem E_130_0 (Ls d : Nat) (p1 : Int) (w : AW) : Lm P0 (M0 Ls) d m_Judge_firstBroken 0 [some (.inr (.inr 88)), some (.inl p1), none] [] w = Lm P0 (M0 Ls) d m_Judge_firstBroken 2 [some (.inr (.inr 88)), some (.inl p1), some (.inl 0)] [] w := by
  rw [Lm_unf P0 (M0 Ls) sp_130 4]
  rfl
set_option maxRecDepth 100000 in
theorem E_130_2 (Ls d : Nat) (x1 x2 : Int) (w : AW) : Lm P0 (M0 Ls) d m_Judge_firstBroken 2 [some (.inr (.inr 88)), some (.inl x1), some (.inl x2)] [] w = (if 0 ≤ x1 ∧ x1 < 3 then (if x2 < (rd w 63 x1) then Lk P0 (M0 Ls) d m_Rock_place [.inl x1, .inl x2] w (fun r_ w_ => Lm P0 (M0 Ls) d m_Judge_firstBroken 21 [some (.inr (.inr 88)), some (.inl x1), some (.inl x2)] (r_.toList ++ [.inr (.inr 88)]) w_) else some (some (.inl (-1)), w)) else none) := by
  rw [Lm_unf P0 (M0 Ls) sp_130 12]
  rfl
set_option maxRecDepth 100000 in
theorem E_130_21 (Ls d : Nat) (x1 x2 y0 : Int) (w : AW) : Lm P0 (M0 Ls) d m_Judge_firstBroken 21 [some (.inr (.inr 88)), some (.inl x1), some (.inl x2)] [.inl y0, .inr (.inr 88)] w = Lk P0 (M0 Ls) d m_Judge_worth [.inr (.inr 88), .inl y0] w (fun r_ w_ => Lm P0 (M0 Ls) d m_Judge_firstBroken 24 [some (.inr (.inr 88)), some (.inl x1), some (.inl x2)] (r_.toList ++ []) w_) := by
  rw [Lm_unf P0 (M0 Ls) sp_130 2]
  rfl
set_option maxRecDepth 100000 in
theorem E_130_24 (Ls d : Nat) (x1 x2 y0 : Int) (w : AW) : Lm P0 (M0 Ls) d m_Judge_firstBroken 24 [some (.inr (.inr 88)), some (.inl x1), some (.inl x2)] [.inl y0] w = (if y0 = 0 then some (some (.inl x2), w) else Lm P0 (M0 Ls) d m_Judge_firstBroken 2 [some (.inr (.inr 88)), some (.inl x1), some (.inl (w32 (x2 + 1)))] [] w) := by
  rw [Lm_unf P0 (M0 Ls) sp_130 5]
  rfl
def sp_131 : Nat → Bool := fun q => [0, 12, 73, 80, 115, 119, 217, 218, 239, 244, 267, 290, 339].contains q
set_option maxRecDepth 100000 in
theorem E_131_0 (Ls d : Nat) (p1 : Int) (w : AW) : Lm P0 (M0 Ls) d m_Judge_worth 0 [some (.inr (.inr 88)), some (.inl p1), none, none, none, none, none] [] w = (if 0 ≤ p1 ∧ p1 < 8 then Lm P0 (M0 Ls) d m_Judge_worth 12 [some (.inr (.inr 88)), some (.inl p1), some (.inl 0), some (.inl (rd w 64 p1)), none, none, none] [] w else none) := by
  rw [Lm_unf P0 (M0 Ls) sp_131 10]
  rfl
set_option maxRecDepth 100000 in
theorem E_131_12 (Ls d : Nat) (x1 x2 x3 : Int) (u4 u5 u6 : Option AV) (w : AW) : Lm P0 (M0 Ls) d m_Judge_worth 12 [some (.inr (.inr 88)), some (.inl x1), some (.inl x2), some (.inl x3), u4, u5, u6] [] w = (if 0 ≤ x1 ∧ x1 < 8 then (if x3 < (rd w 65 x1) then (if 0 ≤ x3 ∧ x3 < 1000 then (if (-6) < (rd w 66 x3) then (if x2 < 64 then (if (rd w 66 x3) < 0 then (if 0 ≤ (w32 ((-1) - (rd w 66 x3))) ∧ (w32 ((-1) - (rd w 66 x3))) < 5 then Lm P0 (M0 Ls) d m_Judge_worth 73 [some (.inr (.inr 88)), some (.inl x1), some (.inl x2), some (.inl x3), some (.inl (rd w 66 x3)), u5, u6] [.inl (rd w 90 (w32 ((-1) - (rd w 66 x3)))), .inl x2, .inr (.inr 92)] w else none) else Lm P0 (M0 Ls) d m_Judge_worth 73 [some (.inr (.inr 88)), some (.inl x1), some (.inl x2), some (.inl x3), some (.inl (rd w 66 x3)), u5, u6] [.inl (rd w 66 x3), .inl x2, .inr (.inr 92)] w) else Lm P0 (M0 Ls) d m_Judge_worth 80 [some (.inr (.inr 88)), some (.inl x1), some (.inl x2), some (.inl x3), some (.inl (rd w 66 x3)), u5, u6] [] w) else Lm P0 (M0 Ls) d m_Judge_worth 80 [some (.inr (.inr 88)), some (.inl x1), some (.inl x2), some (.inl x3), some (.inl (rd w 66 x3)), u5, u6] [] w) else none) else some (some (.inl (rd w 91 0)), w)) else none) := by
  rw [Lm_unf P0 (M0 Ls) sp_131 32]
  rfl
set_option maxRecDepth 100000 in
theorem E_131_73 (Ls d : Nat) (x1 x2 x3 x4 y0 y1 : Int) (u5 u6 : Option AV) (w : AW) : Lm P0 (M0 Ls) d m_Judge_worth 73 [some (.inr (.inr 88)), some (.inl x1), some (.inl x2), some (.inl x3), some (.inl x4), u5, u6] [.inl y0, .inl y1, .inr (.inr 92)] w = (if 0 ≤ y1 ∧ y1 < 64 then Lm P0 (M0 Ls) d m_Judge_worth 339 [some (.inr (.inr 88)), some (.inl x1), some (.inl (w32 (x2 + 1))), some (.inl x3), some (.inl x4), u5, u6] [] (wC w 91 y1 y0) else none) := by
  rw [Lm_unf P0 (M0 Ls) sp_131 5]
  rfl
set_option maxRecDepth 100000 in
theorem E_131_80 (Ls d : Nat) (x1 x2 x3 x4 : Int) (u5 u6 : Option AV) (w : AW) : Lm P0 (M0 Ls) d m_Judge_worth 80 [some (.inr (.inr 88)), some (.inl x1), some (.inl x2), some (.inl x3), some (.inl x4), u5, u6] [] w = (if x4 = (-6) then (if x2 < 1 then Lm P0 (M0 Ls) d m_Judge_worth 119 [some (.inr (.inr 88)), some (.inl x1), some (.inl x2), some (.inl x3), some (.inl x4), u5, u6] [] w else (if 0 ≤ (w32 (x2 - 1)) ∧ (w32 (x2 - 1)) < 64 then (if (rd w 91 (w32 (x2 - 1))) = 0 then Lm P0 (M0 Ls) d m_Judge_worth 115 [some (.inr (.inr 88)), some (.inl x1), some (.inl x2), some (.inl x3), some (.inl x4), u5, u6] [.inl 1, .inl (w32 (x2 - 1)), .inr (.inr 92)] w else Lm P0 (M0 Ls) d m_Judge_worth 115 [some (.inr (.inr 88)), some (.inl x1), some (.inl x2), some (.inl x3), some (.inl x4), u5, u6] [.inl 0, .inl (w32 (x2 - 1)), .inr (.inr 92)] w) else none)) else Lm P0 (M0 Ls) d m_Judge_worth 119 [some (.inr (.inr 88)), some (.inl x1), some (.inl x2), some (.inl x3), some (.inl x4), u5, u6] [] w) := by
  rw [Lm_unf P0 (M0 Ls) sp_131 22]
  rfl
set_option maxRecDepth 100000 in
theorem E_131_115 (Ls d : Nat) (x1 x2 x3 x4 y0 y1 : Int) (u5 u6 : Option AV) (w : AW) : Lm P0 (M0 Ls) d m_Judge_worth 115 [some (.inr (.inr 88)), some (.inl x1), some (.inl x2), some (.inl x3), some (.inl x4), u5, u6] [.inl y0, .inl y1, .inr (.inr 92)] w = (if 0 ≤ y1 ∧ y1 < 64 then Lm P0 (M0 Ls) d m_Judge_worth 339 [some (.inr (.inr 88)), some (.inl x1), some (.inl x2), some (.inl x3), some (.inl x4), u5, u6] [] (wC w 91 y1 y0) else none) := by
  rw [Lm_unf P0 (M0 Ls) sp_131 4]
  rfl
set_option maxRecDepth 100000 in
theorem E_131_119 (Ls d : Nat) (x1 x2 x3 x4 : Int) (u5 u6 : Option AV) (w : AW) : Lm P0 (M0 Ls) d m_Judge_worth 119 [some (.inr (.inr 88)), some (.inl x1), some (.inl x2), some (.inl x3), some (.inl x4), u5, u6] [] w = (if x4 < (-6) then (if x2 < 2 then Lm P0 (M0 Ls) d m_Judge_worth 339 [some (.inr (.inr 88)), some (.inl x1), some (.inl x2), some (.inl x3), some (.inl x4), u5, u6] [] w else (if 0 ≤ (w32 (x2 - 2)) ∧ (w32 (x2 - 2)) < 64 then (if 0 ≤ (w32 (x2 - 1)) ∧ (w32 (x2 - 1)) < 64 then (if x4 = (-12) then (if 0 ≤ (w32 ((w32 (x2 + (-1))) - 1)) ∧ (w32 ((w32 (x2 + (-1))) - 1)) < 64 then Lm P0 (M0 Ls) d m_Judge_worth 339 [some (.inr (.inr 88)), some (.inl x1), some (.inl (w32 (x2 + (-1)))), some (.inl x3), some (.inl x4), some (.inl (rd w 91 (w32 (x2 - 2)))), some (.inl (rd w 91 (w32 (x2 - 1))))] [] (wC w 91 (w32 ((w32 (x2 + (-1))) - 1)) (w32 ((rd w 91 (w32 (x2 - 2))) - (rd w 91 (w32 (x2 - 1)))))) else none) else (if x4 = (-11) then (if 0 ≤ (w32 ((w32 (x2 + (-1))) - 1)) ∧ (w32 ((w32 (x2 + (-1))) - 1)) < 64 then Lm P0 (M0 Ls) d m_Judge_worth 339 [some (.inr (.inr 88)), some (.inl x1), some (.inl (w32 (x2 + (-1)))), some (.inl x3), some (.inl x4), some (.inl (rd w 91 (w32 (x2 - 2)))), some (.inl (rd w 91 (w32 (x2 - 1))))] [] (wC w 91 (w32 ((w32 (x2 + (-1))) - 1)) (w32 ((rd w 91 (w32 (x2 - 2))) + (rd w 91 (w32 (x2 - 1)))))) else none) else (if x4 = (-10) then (if (rd w 91 (w32 (x2 - 2))) = (rd w 91 (w32 (x2 - 1))) then Lm P0 (M0 Ls) d m_Judge_worth 290 [some (.inr (.inr 88)), some (.inl x1), some (.inl (w32 (x2 + (-1)))), some (.inl x3), some (.inl x4), some (.inl (rd w 91 (w32 (x2 - 2)))), some (.inl (rd w 91 (w32 (x2 - 1))))] [.inl 1, .inl (w32 ((w32 (x2 + (-1))) - 1)), .inr (.inr 92)] w else Lm P0 (M0 Ls) d m_Judge_worth 290 [some (.inr (.inr 88)), some (.inl x1), some (.inl (w32 (x2 + (-1)))), some (.inl x3), some (.inl x4), some (.inl (rd w 91 (w32 (x2 - 2)))), some (.inl (rd w 91 (w32 (x2 - 1))))] [.inl 0, .inl (w32 ((w32 (x2 + (-1))) - 1)), .inr (.inr 92)] w) else (if x4 = (-9) then (if (rd w 91 (w32 (x2 - 2))) < (rd w 91 (w32 (x2 - 1))) then Lm P0 (M0 Ls) d m_Judge_worth 267 [some (.inr (.inr 88)), some (.inl x1), some (.inl (w32 (x2 + (-1)))), some (.inl x3), some (.inl x4), some (.inl (rd w 91 (w32 (x2 - 2)))), some (.inl (rd w 91 (w32 (x2 - 1))))] [.inl 1, .inl (w32 ((w32 (x2 + (-1))) - 1)), .inr (.inr 92)] w else Lm P0 (M0 Ls) d m_Judge_worth 267 [some (.inr (.inr 88)), some (.inl x1), some (.inl (w32 (x2 + (-1)))), some (.inl x3), some (.inl x4), some (.inl (rd w 91 (w32 (x2 - 2)))), some (.inl (rd w 91 (w32 (x2 - 1))))] [.inl 0, .inl (w32 ((w32 (x2 + (-1))) - 1)), .inr (.inr 92)] w) else (if x4 = (-8) then (if (rd w 91 (w32 (x2 - 2))) = 0 then (if (rd w 91 (w32 (x2 - 1))) = 0 then Lm P0 (M0 Ls) d m_Judge_worth 244 [some (.inr (.inr 88)), some (.inl x1), some (.inl (w32 (x2 + (-1)))), some (.inl x3), some (.inl x4), some (.inl (rd w 91 (w32 (x2 - 2)))), some (.inl (rd w 91 (w32 (x2 - 1))))] [.inl 0, .inl (w32 ((w32 (x2 + (-1))) - 1)), .inr (.inr 92)] w else Lm P0 (M0 Ls) d m_Judge_worth 239 [some (.inr (.inr 88)), some (.inl x1), some (.inl (w32 (x2 + (-1)))), some (.inl x3), some (.inl x4), some (.inl (rd w 91 (w32 (x2 - 2)))), some (.inl (rd w 91 (w32 (x2 - 1))))] [.inl (w32 ((w32 (x2 + (-1))) - 1)), .inr (.inr 92)] w) else Lm P0 (M0 Ls) d m_Judge_worth 239 [some (.inr (.inr 88)), some (.inl x1), some (.inl (w32 (x2 + (-1)))), some (.inl x3), some (.inl x4), some (.inl (rd w 91 (w32 (x2 - 2)))), some (.inl (rd w 91 (w32 (x2 - 1))))] [.inl (w32 ((w32 (x2 + (-1))) - 1)), .inr (.inr 92)] w) else (if x4 = (-7) then (if (rd w 91 (w32 (x2 - 2))) = 0 then Lm P0 (M0 Ls) d m_Judge_worth 217 [some (.inr (.inr 88)), some (.inl x1), some (.inl (w32 (x2 + (-1)))), some (.inl x3), some (.inl x4), some (.inl (rd w 91 (w32 (x2 - 2)))), some (.inl (rd w 91 (w32 (x2 - 1))))] [.inl (w32 ((w32 (x2 + (-1))) - 1)), .inr (.inr 92)] w else (if (rd w 91 (w32 (x2 - 1))) = 0 then Lm P0 (M0 Ls) d m_Judge_worth 217 [some (.inr (.inr 88)), some (.inl x1), some (.inl (w32 (x2 + (-1)))), some (.inl x3), some (.inl x4), some (.inl (rd w 91 (w32 (x2 - 2)))), some (.inl (rd w 91 (w32 (x2 - 1))))] [.inl (w32 ((w32 (x2 + (-1))) - 1)), .inr (.inr 92)] w else Lm P0 (M0 Ls) d m_Judge_worth 218 [some (.inr (.inr 88)), some (.inl x1), some (.inl (w32 (x2 + (-1)))), some (.inl x3), some (.inl x4), some (.inl (rd w 91 (w32 (x2 - 2)))), some (.inl (rd w 91 (w32 (x2 - 1))))] [.inl 1, .inl (w32 ((w32 (x2 + (-1))) - 1)), .inr (.inr 92)] w)) else (if 0 ≤ (w32 ((w32 (x2 + (-1))) - 1)) ∧ (w32 ((w32 (x2 + (-1))) - 1)) < 64 then Lm P0 (M0 Ls) d m_Judge_worth 339 [some (.inr (.inr 88)), some (.inl x1), some (.inl (w32 (x2 + (-1)))), some (.inl x3), some (.inl x4), some (.inl (rd w 91 (w32 (x2 - 2)))), some (.inl (rd w 91 (w32 (x2 - 1))))] [] (wC w 91 (w32 ((w32 (x2 + (-1))) - 1)) (w32 ((rd w 91 (w32 (x2 - 2))) * (rd w 91 (w32 (x2 - 1)))))) else none))))))) else none) else none)) else Lm P0 (M0 Ls) d m_Judge_worth 339 [some (.inr (.inr 88)), some (.inl x1), some (.inl x2), some (.inl x3), some (.inl x4), u5, u6] [] w) := by
  rw [Lm_unf P0 (M0 Ls) sp_131 36]
  rfl
set_option maxRecDepth 100000 in
theorem E_131_217 (Ls d : Nat) (x1 x2 x3 x4 x5 x6 y0 : Int) (w : AW) : Lm P0 (M0 Ls) d m_Judge_worth 217 [some (.inr (.inr 88)), some (.inl x1), some (.inl x2), some (.inl x3), some (.inl x4), some (.inl x5), some (.inl x6)] [.inl y0, .inr (.inr 92)] w = Lm P0 (M0 Ls) d m_Judge_worth 218 [some (.inr (.inr 88)), some (.inl x1), some (.inl x2), some (.inl x3), some (.inl x4), some (.inl x5), some (.inl x6)] [.inl 0, .inl y0, .inr (.inr 92)] w := by
  rw [Lm_unf P0 (M0 Ls) sp_131 3]
  rfl
set_option maxRecDepth 100000 in
theorem E_131_218 (Ls d : Nat) (x1 x2 x3 x4 x5 x6 y0 y1 : Int) (w : AW) : Lm P0 (M0 Ls) d m_Judge_worth 218 [some (.inr (.inr 88)), some (.inl x1), some (.inl x2), some (.inl x3), some (.inl x4), some (.inl x5), some (.inl x6)] [.inl y0, .inl y1, .inr (.inr 92)] w = (if 0 ≤ y1 ∧ y1 < 64 then Lm P0 (M0 Ls) d m_Judge_worth 339 [some (.inr (.inr 88)), some (.inl x1), some (.inl x2), some (.inl x3), some (.inl x4), some (.inl x5), some (.inl x6)] [] (wC w 91 y1 y0) else none) := by
  rw [Lm_unf P0 (M0 Ls) sp_131 4]
  rfl
set_option maxRecDepth 100000 in
theorem E_131_239 (Ls d : Nat) (x1 x2 x3 x4 x5 x6 y0 : Int) (w : AW) : Lm P0 (M0 Ls) d m_Judge_worth 239 [some (.inr (.inr 88)), some (.inl x1), some (.inl x2), some (.inl x3), some (.inl x4), some (.inl x5), some (.inl x6)] [.inl y0, .inr (.inr 92)] w = Lm P0 (M0 Ls) d m_Judge_worth 244 [some (.inr (.inr 88)), some (.inl x1), some (.inl x2), some (.inl x3), some (.inl x4), some (.inl x5), some (.inl x6)] [.inl 1, .inl y0, .inr (.inr 92)] w := by
  rw [Lm_unf P0 (M0 Ls) sp_131 4]
  rfl
set_option maxRecDepth 100000 in
theorem E_131_244 (Ls d : Nat) (x1 x2 x3 x4 x5 x6 y0 y1 : Int) (w : AW) : Lm P0 (M0 Ls) d m_Judge_worth 244 [some (.inr (.inr 88)), some (.inl x1), some (.inl x2), some (.inl x3), some (.inl x4), some (.inl x5), some (.inl x6)] [.inl y0, .inl y1, .inr (.inr 92)] w = (if 0 ≤ y1 ∧ y1 < 64 then Lm P0 (M0 Ls) d m_Judge_worth 339 [some (.inr (.inr 88)), some (.inl x1), some (.inl x2), some (.inl x3), some (.inl x4), some (.inl x5), some (.inl x6)] [] (wC w 91 y1 y0) else none) := by
  rw [Lm_unf P0 (M0 Ls) sp_131 4]
  rfl
set_option maxRecDepth 100000 in
theorem E_131_267 (Ls d : Nat) (x1 x2 x3 x4 x5 x6 y0 y1 : Int) (w : AW) : Lm P0 (M0 Ls) d m_Judge_worth 267 [some (.inr (.inr 88)), some (.inl x1), some (.inl x2), some (.inl x3), some (.inl x4), some (.inl x5), some (.inl x6)] [.inl y0, .inl y1, .inr (.inr 92)] w = (if 0 ≤ y1 ∧ y1 < 64 then Lm P0 (M0 Ls) d m_Judge_worth 339 [some (.inr (.inr 88)), some (.inl x1), some (.inl x2), some (.inl x3), some (.inl x4), some (.inl x5), some (.inl x6)] [] (wC w 91 y1 y0) else none) := by
  rw [Lm_unf P0 (M0 Ls) sp_131 4]
  rfl
set_option maxRecDepth 100000 in
theorem E_131_290 (Ls d : Nat) (x1 x2 x3 x4 x5 x6 y0 y1 : Int) (w : AW) : Lm P0 (M0 Ls) d m_Judge_worth 290 [some (.inr (.inr 88)), some (.inl x1), some (.inl x2), some (.inl x3), some (.inl x4), some (.inl x5), some (.inl x6)] [.inl y0, .inl y1, .inr (.inr 92)] w = (if 0 ≤ y1 ∧ y1 < 64 then Lm P0 (M0 Ls) d m_Judge_worth 339 [some (.inr (.inr 88)), some (.inl x1), some (.inl x2), some (.inl x3), some (.inl x4), some (.inl x5), some (.inl x6)] [] (wC w 91 y1 y0) else none) := by
  rw [Lm_unf P0 (M0 Ls) sp_131 4]
  rfl
set_option maxRecDepth 100000 in
theorem E_131_339 (Ls d : Nat) (x1 x2 x3 x4 : Int) (u5 u6 : Option AV) (w : AW) : Lm P0 (M0 Ls) d m_Judge_worth 339 [some (.inr (.inr 88)), some (.inl x1), some (.inl x2), some (.inl x3), some (.inl x4), u5, u6] [] w = Lm P0 (M0 Ls) d m_Judge_worth 12 [some (.inr (.inr 88)), some (.inl x1), some (.inl x2), some (.inl (w32 (x3 + 1))), some (.inl x4), u5, u6] [] w := by
  rw [Lm_unf P0 (M0 Ls) sp_131 4]
  rfl
