def sp_73 : Nat → Bool := fun q => [0, 14].contains q
set_option maxRecDepth 100000 in
theorem E_73_0 (Ls d : Nat) (w : AW) : Lm P0 (M0 Ls) d m_State_empty 0 [some (.inr (.inr 57))] [] w = Lk P0 (M0 Ls) d m_Arrays_fill [.inr (.inr 69), .inl (-2)] (wC w 56 2 0) (fun r_ w_ => Lm P0 (M0 Ls) d m_State_empty 14 [some (.inr (.inr 57))] (r_.toList ++ []) w_) := by
  rw [Lm_unf P0 (M0 Ls) sp_73 8]
  rfl
set_option maxRecDepth 100000 in
theorem E_73_14 (Ls d : Nat) (w : AW) : Lm P0 (M0 Ls) d m_State_empty 14 [some (.inr (.inr 57))] [] w = some (none, w) := by
  rw [Lm_unf P0 (M0 Ls) sp_73 2]
  rfl
def sp_74 : Nat → Bool := fun q => [0, 11, 23, 38].contains q
set_option maxRecDepth 100000 in
theorem E_74_0 (Ls d : Nat) (p1 : Int) (w : AW) : Lm P0 (M0 Ls) d m_State_copyFrom 0 [some (.inr (.inr 57)), some (.inr (.inr p1))] [] w = (if 0 < p1 then (if (shv (M0 Ls) w (adr p1)).1 = 2 then Lk P0 (M0 Ls) d m_Rock_copyFrom [.inr (.inr 58), .inr (.inr (cv (M0 Ls) w (adr p1) 0))] w (fun r_ w_ => Lm P0 (M0 Ls) d m_State_copyFrom 11 [some (.inr (.inr 57)), some (.inr (.inr p1))] (r_.toList ++ []) w_) else none) else none) := by
  rw [Lm_unf P0 (M0 Ls) sp_74 6]
  rfl
set_option maxRecDepth 100000 in
theorem E_74_11 (Ls d : Nat) (x1 : Int) (w : AW) : Lm P0 (M0 Ls) d m_State_copyFrom 11 [some (.inr (.inr 57)), some (.inr (.inr x1))] [] w = (if 0 < x1 then (if (shv (M0 Ls) w (adr x1)).1 = 2 then (if 0 < x1 then (if (shv (M0 Ls) w (adr x1)).1 = 2 then Lk P0 (M0 Ls) d m_State_takeTune [.inr (.inr 57), .inr (.inr (cv (M0 Ls) w (adr x1) 1)), .inl (cv (M0 Ls) w (adr x1) 2)] w (fun r_ w_ => Lm P0 (M0 Ls) d m_State_copyFrom 23 [some (.inr (.inr 57)), some (.inr (.inr x1))] (r_.toList ++ []) w_) else none) else none) else none) else none) := by
  rw [Lm_unf P0 (M0 Ls) sp_74 7]
  rfl
set_option maxRecDepth 100000 in
theorem E_74_23 (Ls d : Nat) (x1 : Int) (w : AW) : Lm P0 (M0 Ls) d m_State_copyFrom 23 [some (.inr (.inr 57)), some (.inr (.inr x1))] [] w = (if 0 < x1 then (if (shv (M0 Ls) w (adr x1)).1 = 2 then (arN (M0 Ls) w (cv (M0 Ls) w (adr x1) 3) 100 100 100 none (fun s1 sn1 => (if s1 ≠ 68 ∧ (0 : Int) ≤ 60 ∧ (0 : Int) ≤ 0 ∧ (0 : Int) ≤ 0 ∧ (0 + 60 : Int) ≤ ((sn1 : Nat) : Int) ∧ (0 + 60 : Int) ≤ ((60 : Nat) : Int) ∧ 0 ≤ 8 then Lm P0 (M0 Ls) d m_State_copyFrom 38 [some (.inr (.inr 57)), some (.inr (.inr x1))] [] (wcp w s1 0 68 0 60) else none))) else none) else none) := by
  rw [Lm_unf P0 (M0 Ls) sp_74 10]
  rfl
set_option maxRecDepth 100000 in
theorem E_74_38 (Ls d : Nat) (x1 : Int) (w : AW) : Lm P0 (M0 Ls) d m_State_copyFrom 38 [some (.inr (.inr 57)), some (.inr (.inr x1))] [] w = some (none, w) := by
  rw [Lm_unf P0 (M0 Ls) sp_74 2]
  rfl
def sp_74_z : Nat → Bool := fun q => [0, 11, 23, 38].contains q
set_option maxRecDepth 100000 in
theorem E_74_0_z (Ls d : Nat) (z0 p1 : Int) (w : AW) : Lm P0 (M0 Ls) d m_State_copyFrom 0 [some (.inr (.inr z0)), some (.inr (.inr p1))] [] w = (if 0 < z0 then (if (shv (M0 Ls) w (adr z0)).1 = 2 then (if 0 < p1 then (if (shv (M0 Ls) w (adr p1)).1 = 2 then (if 0 < (cv (M0 Ls) w (adr z0) 0) then (if (shv (M0 Ls) w (adr (cv (M0 Ls) w (adr z0) 0))).1 = Int.toNat 3 then Lk P0 (M0 Ls) d m_Rock_copyFrom [.inr (.inr (cv (M0 Ls) w (adr z0) 0)), .inr (.inr (cv (M0 Ls) w (adr p1) 0))] w (fun r_ w_ => Lm P0 (M0 Ls) d m_State_copyFrom 11 [some (.inr (.inr z0)), some (.inr (.inr p1))] (r_.toList ++ []) w_) else none) else none) else none) else none) else none) else none) := by
  rw [Lm_unf P0 (M0 Ls) sp_74_z 6]
  rfl
set_option maxRecDepth 100000 in
theorem E_74_11_z (Ls d : Nat) (x0 x1 : Int) (w : AW) : Lm P0 (M0 Ls) d m_State_copyFrom 11 [some (.inr (.inr x0)), some (.inr (.inr x1))] [] w = (if 0 < x1 then (if (shv (M0 Ls) w (adr x1)).1 = 2 then (if 0 < x1 then (if (shv (M0 Ls) w (adr x1)).1 = 2 then (if 0 < x0 then (if (shv (M0 Ls) w (adr x0)).1 = Int.toNat 2 then Lk P0 (M0 Ls) d m_State_takeTune [.inr (.inr x0), .inr (.inr (cv (M0 Ls) w (adr x1) 1)), .inl (cv (M0 Ls) w (adr x1) 2)] w (fun r_ w_ => Lm P0 (M0 Ls) d m_State_copyFrom 23 [some (.inr (.inr x0)), some (.inr (.inr x1))] (r_.toList ++ []) w_) else none) else none) else none) else none) else none) else none) := by
  rw [Lm_unf P0 (M0 Ls) sp_74_z 7]
  rfl
set_option maxRecDepth 100000 in
theorem E_74_23_z (Ls d : Nat) (x0 x1 : Int) (w : AW) : Lm P0 (M0 Ls) d m_State_copyFrom 23 [some (.inr (.inr x0)), some (.inr (.inr x1))] [] w = (if 0 < x1 then (if (shv (M0 Ls) w (adr x1)).1 = 2 then (if 0 < x0 then (if (shv (M0 Ls) w (adr x0)).1 = 2 then (arN (M0 Ls) w (cv (M0 Ls) w (adr x1) 3) 100 100 100 none (fun s1 sn1 => (arN (M0 Ls) w (cv (M0 Ls) w (adr x0) 3) 100 100 100 none (fun t1 tn1 => (if s1 ≠ t1 ∧ (0 : Int) ≤ 60 ∧ (0 : Int) ≤ 0 ∧ (0 : Int) ≤ 0 ∧ (0 + 60 : Int) ≤ ((sn1 : Nat) : Int) ∧ (0 + 60 : Int) ≤ ((tn1 : Nat) : Int) ∧ 0 ≤ 8 then Lm P0 (M0 Ls) d m_State_copyFrom 38 [some (.inr (.inr x0)), some (.inr (.inr x1))] [] (wcp w s1 0 t1 0 60) else none))))) else none) else none) else none) else none) := by
  rw [Lm_unf P0 (M0 Ls) sp_74_z 10]
  rfl
set_option maxRecDepth 100000 in
theorem E_74_38_z (Ls d : Nat) (x0 x1 : Int) (w : AW) : Lm P0 (M0 Ls) d m_State_copyFrom 38 [some (.inr (.inr x0)), some (.inr (.inr x1))] [] w = some (none, w) := by
  rw [Lm_unf P0 (M0 Ls) sp_74_z 2]
  rfl
def sp_75 : Nat → Bool := fun q => [0].contains q
set_option maxRecDepth 100000 in
theorem E_75_0 (Ls d : Nat) (p1 p2 : Int) (w : AW) : Lm P0 (M0 Ls) d m_State_takeTune 0 [some (.inr (.inr 57)), some (.inr (.inr p1)), some (.inl p2)] [] w = (arN (M0 Ls) w p1 100 100 100 none (fun s1 sn1 => (if s1 ≠ 67 ∧ (0 : Int) ≤ p2 ∧ (0 : Int) ≤ 0 ∧ (0 : Int) ≤ 0 ∧ (0 + p2 : Int) ≤ ((sn1 : Nat) : Int) ∧ (0 + p2 : Int) ≤ ((200 : Nat) : Int) ∧ 0 ≤ 8 then some (none, wC (wcp w s1 0 67 0 p2) 56 2 p2) else none))) := by
  rw [Lm_unf P0 (M0 Ls) sp_75 12]
  rfl
def sp_75_z : Nat → Bool := fun q => [0].contains q
set_option maxRecDepth 100000 in
theorem E_75_0_z (Ls d : Nat) (z0 p1 p2 : Int) (w : AW) : Lm P0 (M0 Ls) d m_State_takeTune 0 [some (.inr (.inr z0)), some (.inr (.inr p1)), some (.inl p2)] [] w = (if 0 < z0 then (if (shv (M0 Ls) w (adr z0)).1 = 2 then (arN (M0 Ls) w p1 100 100 100 none (fun s1 sn1 => (arN (M0 Ls) w (cv (M0 Ls) w (adr z0) 1) 100 100 100 none (fun t1 tn1 => (if s1 ≠ t1 ∧ (0 : Int) ≤ p2 ∧ (0 : Int) ≤ 0 ∧ (0 : Int) ≤ 0 ∧ (0 + p2 : Int) ≤ ((sn1 : Nat) : Int) ∧ (0 + p2 : Int) ≤ ((tn1 : Nat) : Int) ∧ 0 ≤ 8 then (if 0 < z0 then (if (shv (M0 Ls) (wcp w s1 0 t1 0 p2) (adr z0)).1 = 2 then (if adr z0 < (M0 Ls).1 ∧ ¬ (M0 Ls).2.2 (adr z0) 2 = 0 then none else some (none, wC (wcp w s1 0 t1 0 p2) (adr z0) 2 p2)) else none) else none) else none))))) else none) else none) := by
  rw [Lm_unf P0 (M0 Ls) sp_75_z 12]
  rfl
def sp_76 : Nat → Bool := fun q => [0, 30].contains q
set_option maxRecDepth 100000 in
theorem E_76_0 (Ls d : Nat) (p1 : Int) (w : AW) : Lm P0 (M0 Ls) d m_State_append 0 [some (.inr (.inr 57)), some (.inl p1)] [] w = (if (rd w 56 2) < 200 then (if 0 ≤ (rd w 56 2) ∧ (rd w 56 2) < 200 then Lm P0 (M0 Ls) d m_State_append 30 [some (.inr (.inr 57)), some (.inl p1)] [] (wC (wC w 67 (rd w 56 2) p1) 56 2 (w32 ((rd (wC w 67 (rd w 56 2) p1) 56 2) + 1))) else none) else Lm P0 (M0 Ls) d m_State_append 30 [some (.inr (.inr 57)), some (.inl p1)] [] w) := by
  rw [Lm_unf P0 (M0 Ls) sp_76 18]
  rfl
set_option maxRecDepth 100000 in
theorem E_76_30 (Ls d : Nat) (x1 : Int) (w : AW) : Lm P0 (M0 Ls) d m_State_append 30 [some (.inr (.inr 57)), some (.inl x1)] [] w = some (none, w) := by
  rw [Lm_unf P0 (M0 Ls) sp_76 2]
  rfl
def sp_77 : Nat → Bool := fun q => [0, 4, 16, 24].contains q
set_option maxRecDepth 100000 in
theorem E_77_0 (Ls d : Nat) (w : AW) : Lm P0 (M0 Ls) d m_State_howManyFixed 0 [some (.inr (.inr 57)), none, none] [] w = Lm P0 (M0 Ls) d m_State_howManyFixed 4 [some (.inr (.inr 57)), some (.inl 0), some (.inl 0)] [] w := by
  rw [Lm_unf P0 (M0 Ls) sp_77 6]
  rfl
set_option maxRecDepth 100000 in
theorem E_77_4 (Ls d : Nat) (x1 x2 : Int) (w : AW) : Lm P0 (M0 Ls) d m_State_howManyFixed 4 [some (.inr (.inr 57)), some (.inl x1), some (.inl x2)] [] w = (if x2 < 60 then Lk P0 (M0 Ls) d m_State_isFree [.inr (.inr 57), .inl x2] w (fun r_ w_ => Lm P0 (M0 Ls) d m_State_howManyFixed 16 [some (.inr (.inr 57)), some (.inl x1), some (.inl x2)] (r_.toList ++ [.inl x1]) w_) else some (some (.inl x1), w)) := by
  rw [Lm_unf P0 (M0 Ls) sp_77 8]
  rfl
set_option maxRecDepth 100000 in
theorem E_77_16 (Ls d : Nat) (x1 x2 y0 y1 : Int) (w : AW) : Lm P0 (M0 Ls) d m_State_howManyFixed 16 [some (.inr (.inr 57)), some (.inl x1), some (.inl x2)] [.inl y0, .inl y1] w = (if y0 = 0 then Lm P0 (M0 Ls) d m_State_howManyFixed 24 [some (.inr (.inr 57)), some (.inl x1), some (.inl x2)] [.inl 1, .inl y1] w else Lm P0 (M0 Ls) d m_State_howManyFixed 24 [some (.inr (.inr 57)), some (.inl x1), some (.inl x2)] [.inl 0, .inl y1] w) := by
  rw [Lm_unf P0 (M0 Ls) sp_77 5]
  rfl
set_option maxRecDepth 100000 in
theorem E_77_24 (Ls d : Nat) (x1 x2 y0 y1 : Int) (w : AW) : Lm P0 (M0 Ls) d m_State_howManyFixed 24 [some (.inr (.inr 57)), some (.inl x1), some (.inl x2)] [.inl y0, .inl y1] w = Lm P0 (M0 Ls) d m_State_howManyFixed 4 [some (.inr (.inr 57)), some (.inl (w32 (y1 + y0))), some (.inl (w32 (x2 + 1)))] [] w := by
  rw [Lm_unf P0 (M0 Ls) sp_77 6]
  rfl
def sp_78 : Nat → Bool := fun q => [0, 5, 20].contains q
set_option maxRecDepth 100000 in
theorem E_78_0 (Ls d : Nat) (p1 : Int) (w : AW) : Lm P0 (M0 Ls) d m_State_lowDigit 0 [some (.inr (.inr 57)), some (.inl p1)] [] w = Lk P0 (M0 Ls) d m_State_isFree [.inr (.inr 57), .inl p1] w (fun r_ w_ => Lm P0 (M0 Ls) d m_State_lowDigit 5 [some (.inr (.inr 57)), some (.inl p1)] (r_.toList ++ []) w_) := by
  rw [Lm_unf P0 (M0 Ls) sp_78 4]
  rfl
set_option maxRecDepth 100000 in
theorem E_78_5 (Ls d : Nat) (x1 y0 : Int) (w : AW) : Lm P0 (M0 Ls) d m_State_lowDigit 5 [some (.inr (.inr 57)), some (.inl x1)] [.inl y0] w = (if y0 = 0 then (if 0 ≤ x1 ∧ x1 < 60 then Lm P0 (M0 Ls) d m_State_lowDigit 20 [some (.inr (.inr 57)), some (.inl x1)] [.inl (w32 ((rd w 68 x1) + 1))] w else none) else Lm P0 (M0 Ls) d m_State_lowDigit 20 [some (.inr (.inr 57)), some (.inl x1)] [.inl 1] w) := by
  rw [Lm_unf P0 (M0 Ls) sp_78 9]
  rfl
set_option maxRecDepth 100000 in
theorem E_78_20 (Ls d : Nat) (x1 y0 : Int) (w : AW) : Lm P0 (M0 Ls) d m_State_lowDigit 20 [some (.inr (.inr 57)), some (.inl x1)] [.inl y0] w = some (some (.inl y0), w) := by
  rw [Lm_unf P0 (M0 Ls) sp_78 2]
  rfl
def sp_79 : Nat → Bool := fun q => [0, 5, 26].contains q
set_option maxRecDepth 100000 in
theorem E_79_0 (Ls d : Nat) (p1 : Int) (w : AW) : Lm P0 (M0 Ls) d m_State_highDigit 0 [some (.inr (.inr 57)), some (.inl p1)] [] w = Lk P0 (M0 Ls) d m_State_isFree [.inr (.inr 57), .inl p1] w (fun r_ w_ => Lm P0 (M0 Ls) d m_State_highDigit 5 [some (.inr (.inr 57)), some (.inl p1)] (r_.toList ++ []) w_) := by
  rw [Lm_unf P0 (M0 Ls) sp_79 4]
  rfl
set_option maxRecDepth 100000 in
theorem E_79_5 (Ls d : Nat) (x1 y0 : Int) (w : AW) : Lm P0 (M0 Ls) d m_State_highDigit 5 [some (.inr (.inr 57)), some (.inl x1)] [.inl y0] w = (if y0 = 0 then (if 0 ≤ x1 ∧ x1 < 60 then Lm P0 (M0 Ls) d m_State_highDigit 26 [some (.inr (.inr 57)), some (.inl x1)] [.inl (w32 ((rd w 68 x1) + 1))] w else none) else Lm P0 (M0 Ls) d m_State_highDigit 26 [some (.inr (.inr 57)), some (.inl x1)] [.inl (rd w 57 0)] w) := by
  rw [Lm_unf P0 (M0 Ls) sp_79 9]
  rfl
set_option maxRecDepth 100000 in
theorem E_79_26 (Ls d : Nat) (x1 y0 : Int) (w : AW) : Lm P0 (M0 Ls) d m_State_highDigit 26 [some (.inr (.inr 57)), some (.inl x1)] [.inl y0] w = some (some (.inl y0), w) := by
  rw [Lm_unf P0 (M0 Ls) sp_79 2]
  rfl
def sp_80 : Nat → Bool := fun q => [0, 21, 26].contains q
set_option maxRecDepth 100000 in
theorem E_80_0 (Ls d : Nat) (p1 : Int) (w : AW) : Lm P0 (M0 Ls) d m_State_isFree 0 [some (.inr (.inr 57)), some (.inl p1)] [] w = (if p1 < 0 then Lm P0 (M0 Ls) d m_State_isFree 21 [some (.inr (.inr 57)), some (.inl p1)] [] w else (if p1 < 60 then (if 0 ≤ p1 ∧ p1 < 60 then (if (rd w 68 p1) = (-2) then Lm P0 (M0 Ls) d m_State_isFree 21 [some (.inr (.inr 57)), some (.inl p1)] [] w else Lm P0 (M0 Ls) d m_State_isFree 26 [some (.inr (.inr 57)), some (.inl p1)] [.inl 0] w) else none) else Lm P0 (M0 Ls) d m_State_isFree 21 [some (.inr (.inr 57)), some (.inl p1)] [] w)) := by
  rw [Lm_unf P0 (M0 Ls) sp_80 14]
  rfl
set_option maxRecDepth 100000 in
theorem E_80_21 (Ls d : Nat) (x1 : Int) (w : AW) : Lm P0 (M0 Ls) d m_State_isFree 21 [some (.inr (.inr 57)), some (.inl x1)] [] w = Lm P0 (M0 Ls) d m_State_isFree 26 [some (.inr (.inr 57)), some (.inl x1)] [.inl 1] w := by
  rw [Lm_unf P0 (M0 Ls) sp_80 4]
  rfl
set_option maxRecDepth 100000 in
theorem E_80_26 (Ls d : Nat) (x1 y0 : Int) (w : AW) : Lm P0 (M0 Ls) d m_State_isFree 26 [some (.inr (.inr 57)), some (.inl x1)] [.inl y0] w = (if rok 3 y0 = true then some (some (.inl y0), w) else none) := by
  rw [Lm_unf P0 (M0 Ls) sp_80 2]
  rfl
def sp_81 : Nat → Bool := fun q => [0, 12, 23].contains q
set_option maxRecDepth 100000 in
theorem E_81_0 (Ls d : Nat) (p1 : Int) (w : AW) : Lm P0 (M0 Ls) d m_State_sung 0 [some (.inr (.inr 57)), some (.inl p1)] [] w = (if p1 < 0 then Lm P0 (M0 Ls) d m_State_sung 12 [some (.inr (.inr 57)), some (.inl p1)] [] w else (if p1 < (rd w 56 2) then (if 0 ≤ p1 ∧ p1 < 200 then Lm P0 (M0 Ls) d m_State_sung 23 [some (.inr (.inr 57)), some (.inl p1)] [.inl (rd w 67 p1)] w else none) else Lm P0 (M0 Ls) d m_State_sung 12 [some (.inr (.inr 57)), some (.inl p1)] [] w)) := by
  rw [Lm_unf P0 (M0 Ls) sp_81 12]
  rfl
set_option maxRecDepth 100000 in
theorem E_81_12 (Ls d : Nat) (x1 : Int) (w : AW) : Lm P0 (M0 Ls) d m_State_sung 12 [some (.inr (.inr 57)), some (.inl x1)] [] w = Lm P0 (M0 Ls) d m_State_sung 23 [some (.inr (.inr 57)), some (.inl x1)] [.inl (-2)] w := by
  rw [Lm_unf P0 (M0 Ls) sp_81 4]
  rfl
set_option maxRecDepth 100000 in
theorem E_81_23 (Ls d : Nat) (x1 y0 : Int) (w : AW) : Lm P0 (M0 Ls) d m_State_sung 23 [some (.inr (.inr 57)), some (.inl x1)] [.inl y0] w = some (some (.inl y0), w) := by
  rw [Lm_unf P0 (M0 Ls) sp_81 2]
  rfl
def sp_82 : Nat → Bool := fun q => [0, 5, 23].contains q
set_option maxRecDepth 100000 in
theorem E_82_0 (Ls d : Nat) (p1 p2 p3 : Int) (w : AW) : Lm P0 (M0 Ls) d m_State_shifted 0 [some (.inr (.inr 57)), some (.inl p1), some (.inl p2), some (.inl p3), none] [] w = Lk P0 (M0 Ls) d m_State_sung [.inr (.inr 57), .inl p1] w (fun r_ w_ => Lm P0 (M0 Ls) d m_State_shifted 5 [some (.inr (.inr 57)), some (.inl p1), some (.inl p2), some (.inl p3), none] (r_.toList ++ []) w_) := by
  rw [Lm_unf P0 (M0 Ls) sp_82 4]
  rfl
set_option maxRecDepth 100000 in
theorem E_82_5 (Ls d : Nat) (x1 x2 x3 y0 : Int) (w : AW) : Lm P0 (M0 Ls) d m_State_shifted 5 [some (.inr (.inr 57)), some (.inl x1), some (.inl x2), some (.inl x3), none] [.inl y0] w = (if y0 < 0 then Lm P0 (M0 Ls) d m_State_shifted 23 [some (.inr (.inr 57)), some (.inl x1), some (.inl x2), some (.inl x3), some (.inl y0)] [.inl (-1000000)] w else Lm P0 (M0 Ls) d m_State_shifted 23 [some (.inr (.inr 57)), some (.inl x1), some (.inl x2), some (.inl x3), some (.inl y0)] [.inl (w32 ((w32 (x2 * y0)) + x3))] w) := by
  rw [Lm_unf P0 (M0 Ls) sp_82 10]
  rfl
set_option maxRecDepth 100000 in
theorem E_82_23 (Ls d : Nat) (x1 x2 x3 x4 y0 : Int) (w : AW) : Lm P0 (M0 Ls) d m_State_shifted 23 [some (.inr (.inr 57)), some (.inl x1), some (.inl x2), some (.inl x3), some (.inl x4)] [.inl y0] w = some (some (.inl y0), w) := by
  rw [Lm_unf P0 (M0 Ls) sp_82 2]
  rfl
def sp_83 : Nat → Bool := fun q => [0, 11, 27, 49, 52, 55].contains q
set_option maxRecDepth 100000 in
theorem E_83_0 (Ls d : Nat) (p1 p2 : Int) (w : AW) : Lm P0 (M0 Ls) d m_State_heard 0 [some (.inr (.inr 57)), some (.inl p1), some (.inl p2)] [] w = (if p1 = 0 then Lk P0 (M0 Ls) d m_State_shifted [.inr (.inr 57), .inl p2, .inl 1, .inl 0] w (fun r_ w_ => Lm P0 (M0 Ls) d m_State_heard 11 [some (.inr (.inr 57)), some (.inl p1), some (.inl p2)] (r_.toList ++ []) w_) else (if p1 < 0 then Lm P0 (M0 Ls) d m_State_heard 27 [some (.inr (.inr 57)), some (.inl p1), some (.inl p2)] [] w else (if (rd w 57 2) < p1 then Lm P0 (M0 Ls) d m_State_heard 27 [some (.inr (.inr 57)), some (.inl p1), some (.inl p2)] [] w else Lk P0 (M0 Ls) d m_Rock_sourceOf [.inr (.inr 58), .inl (w32 (p1 - 1)), .inl p2] w (fun r_ w_ => Lm P0 (M0 Ls) d m_State_heard 49 [some (.inr (.inr 57)), some (.inl p1), some (.inl p2)] (r_.toList ++ [.inr (.inr 57), .inl (w32 (p1 - 1)), .inr (.inr 58)]) w_)))) := by
  rw [Lm_unf P0 (M0 Ls) sp_83 23]
  rfl
set_option maxRecDepth 100000 in
theorem E_83_11 (Ls d : Nat) (x1 x2 y0 : Int) (w : AW) : Lm P0 (M0 Ls) d m_State_heard 11 [some (.inr (.inr 57)), some (.inl x1), some (.inl x2)] [.inl y0] w = some (some (.inl y0), w) := by
  rw [Lm_unf P0 (M0 Ls) sp_83 2]
  rfl
set_option maxRecDepth 100000 in
theorem E_83_27 (Ls d : Nat) (x1 x2 : Int) (w : AW) : Lm P0 (M0 Ls) d m_State_heard 27 [some (.inr (.inr 57)), some (.inl x1), some (.inl x2)] [] w = some (some (.inl (-1000000)), w) := by
  rw [Lm_unf P0 (M0 Ls) sp_83 3]
  rfl
set_option maxRecDepth 100000 in
theorem E_83_49 (Ls d : Nat) (x1 x2 y0 y2 : Int) (w : AW) : Lm P0 (M0 Ls) d m_State_heard 49 [some (.inr (.inr 57)), some (.inl x1), some (.inl x2)] [.inl y0, .inr (.inr 57), .inl y2, .inr (.inr 58)] w = Lk P0 (M0 Ls) d m_State_sung [.inr (.inr 57), .inl y0] w (fun r_ w_ => Lm P0 (M0 Ls) d m_State_heard 52 [some (.inr (.inr 57)), some (.inl x1), some (.inl x2)] (r_.toList ++ [.inl y2, .inr (.inr 58)]) w_) := by
  rw [Lm_unf P0 (M0 Ls) sp_83 2]
  rfl
set_option maxRecDepth 100000 in
theorem E_83_52 (Ls d : Nat) (x1 x2 y0 y1 : Int) (w : AW) : Lm P0 (M0 Ls) d m_State_heard 52 [some (.inr (.inr 57)), some (.inl x1), some (.inl x2)] [.inl y0, .inl y1, .inr (.inr 58)] w = Lk P0 (M0 Ls) d m_Rock_givenBack [.inr (.inr 58), .inl y1, .inl y0] w (fun r_ w_ => Lm P0 (M0 Ls) d m_State_heard 55 [some (.inr (.inr 57)), some (.inl x1), some (.inl x2)] (r_.toList ++ []) w_) := by
  rw [Lm_unf P0 (M0 Ls) sp_83 2]
  rfl
set_option maxRecDepth 100000 in
theorem E_83_55 (Ls d : Nat) (x1 x2 y0 : Int) (w : AW) : Lm P0 (M0 Ls) d m_State_heard 55 [some (.inr (.inr 57)), some (.inl x1), some (.inl x2)] [.inl y0] w = some (some (.inl y0), w) := by
  rw [Lm_unf P0 (M0 Ls) sp_83 2]
  rfl
