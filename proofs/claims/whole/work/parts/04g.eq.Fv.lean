def sp_168 : Nat → Bool := fun q => [0].contains q
set_option maxRecDepth 100000 in
theorem E_168_0 (Ls d : Nat) (w : AW) : Lm P0 (M0 Ls) d m_Fv_forget 0 [some (.inr (.inr 105))] [] w = some (none, wC w 104 3 0) := by
  rw [Lm_unf P0 (M0 Ls) sp_168 5]
  rfl
def sp_169 : Nat → Bool := fun q => [0, 4, 31, 32].contains q
set_option maxRecDepth 100000 in
theorem E_169_0 (Ls d : Nat) (p1 : Int) (w : AW) : Lm P0 (M0 Ls) d m_Fv_noteAt 0 [some (.inr (.inr 105)), some (.inl p1)] [] w = Lk P0 (M0 Ls) d m_Fv_search [.inr (.inr 105)] w (fun r_ w_ => Lm P0 (M0 Ls) d m_Fv_noteAt 4 [some (.inr (.inr 105)), some (.inl p1)] (r_.toList ++ []) w_) := by
  rw [Lm_unf P0 (M0 Ls) sp_169 3]
  rfl
set_option maxRecDepth 100000 in
theorem E_169_4 (Ls d : Nat) (x1 : Int) (w : AW) : Lm P0 (M0 Ls) d m_Fv_noteAt 4 [some (.inr (.inr 105)), some (.inl x1)] [] w = (if (rd w 104 4) = 0 then Lm P0 (M0 Ls) d m_Fv_noteAt 31 [some (.inr (.inr 105)), some (.inl x1)] [] w else (if x1 < 0 then Lm P0 (M0 Ls) d m_Fv_noteAt 31 [some (.inr (.inr 105)), some (.inl x1)] [] w else (if x1 < 1000 then (if 0 ≤ x1 ∧ x1 < 1000 then Lm P0 (M0 Ls) d m_Fv_noteAt 32 [some (.inr (.inr 105)), some (.inl x1)] [.inl (rd w 105 x1)] w else none) else Lm P0 (M0 Ls) d m_Fv_noteAt 31 [some (.inr (.inr 105)), some (.inl x1)] [] w))) := by
  rw [Lm_unf P0 (M0 Ls) sp_169 15]
  rfl
set_option maxRecDepth 100000 in
theorem E_169_31 (Ls d : Nat) (x1 : Int) (w : AW) : Lm P0 (M0 Ls) d m_Fv_noteAt 31 [some (.inr (.inr 105)), some (.inl x1)] [] w = Lm P0 (M0 Ls) d m_Fv_noteAt 32 [some (.inr (.inr 105)), some (.inl x1)] [.inl (-1)] w := by
  rw [Lm_unf P0 (M0 Ls) sp_169 3]
  rfl
set_option maxRecDepth 100000 in
theorem E_169_32 (Ls d : Nat) (x1 y0 : Int) (w : AW) : Lm P0 (M0 Ls) d m_Fv_noteAt 32 [some (.inr (.inr 105)), some (.inl x1)] [.inl y0] w = some (some (.inl y0), w) := by
  rw [Lm_unf P0 (M0 Ls) sp_169 2]
  rfl
def sp_170 : Nat → Bool := fun q => [0, 4, 19].contains q
set_option maxRecDepth 100000 in
theorem E_170_0 (Ls d : Nat) (w : AW) : Lm P0 (M0 Ls) d m_Fv_mostBeats 0 [some (.inr (.inr 105))] [] w = Lk P0 (M0 Ls) d m_Fv_search [.inr (.inr 105)] w (fun r_ w_ => Lm P0 (M0 Ls) d m_Fv_mostBeats 4 [some (.inr (.inr 105))] (r_.toList ++ []) w_) := by
  rw [Lm_unf P0 (M0 Ls) sp_170 3]
  rfl
set_option maxRecDepth 100000 in
theorem E_170_4 (Ls d : Nat) (w : AW) : Lm P0 (M0 Ls) d m_Fv_mostBeats 4 [some (.inr (.inr 105))] [] w = (if (rd w 104 4) = 0 then Lm P0 (M0 Ls) d m_Fv_mostBeats 19 [some (.inr (.inr 105))] [.inl (rd w 104 5)] w else Lm P0 (M0 Ls) d m_Fv_mostBeats 19 [some (.inr (.inr 105))] [.inl (-1)] w) := by
  rw [Lm_unf P0 (M0 Ls) sp_170 7]
  rfl
set_option maxRecDepth 100000 in
theorem E_170_19 (Ls d : Nat) (y0 : Int) (w : AW) : Lm P0 (M0 Ls) d m_Fv_mostBeats 19 [some (.inr (.inr 105))] [.inl y0] w = some (some (.inl y0), w) := by
  rw [Lm_unf P0 (M0 Ls) sp_170 2]
  rfl
def sp_171 : Nat → Bool := fun q => [0, 30, 51, 61, 68, 91, 97].contains q
set_option maxRecDepth 100000 in
theorem E_171_0 (Ls d : Nat) (w : AW) : Lm P0 (M0 Ls) d m_Fv_search 0 [some (.inr (.inr 105)), none, none, none] [] w = (if (rd w 104 3) = 0 then Lk P0 (M0 Ls) d m_Math_max [.inl 1, .inl (rd (wC (wC w 104 3 1) 104 4 0) 94 8)] (wC (wC w 104 3 1) 104 4 0) (fun r_ w_ => Lm P0 (M0 Ls) d m_Fv_search 30 [some (.inr (.inr 105)), none, none, none] (r_.toList ++ [.inr (.inr 105)]) w_) else some (none, w)) := by
  rw [Lm_unf P0 (M0 Ls) sp_171 16]
  rfl
set_option maxRecDepth 100000 in
theorem E_171_30 (Ls d : Nat) (y0 : Int) (w : AW) : Lm P0 (M0 Ls) d m_Fv_search 30 [some (.inr (.inr 105)), none, none, none] [.inl y0, .inr (.inr 105)] w = Lk P0 (M0 Ls) d m_Fv_makeRows [.inr (.inr 105), .inl (w32 ((rd (wC w 104 6 y0) 57 1) * (rd (wC w 104 6 y0) 104 6)))] (wC w 104 6 y0) (fun r_ w_ => Lm P0 (M0 Ls) d m_Fv_search 51 [some (.inr (.inr 105)), some (.inl (w32 ((rd (wC w 104 6 y0) 57 1) * (rd (wC w 104 6 y0) 104 6)))), none, none] (r_.toList ++ []) w_) := by
  rw [Lm_unf P0 (M0 Ls) sp_171 12]
  rfl
set_option maxRecDepth 100000 in
theorem E_171_51 (Ls d : Nat) (x1 : Int) (w : AW) : Lm P0 (M0 Ls) d m_Fv_search 51 [some (.inr (.inr 105)), some (.inl x1), none, none] [] w = Lk P0 (M0 Ls) d m_Fv_enter [.inr (.inr 105), .inl 0] (wC w 104 8 0) (fun r_ w_ => Lm P0 (M0 Ls) d m_Fv_search 61 [some (.inr (.inr 105)), some (.inl x1), none, none] (r_.toList ++ []) w_) := by
  rw [Lm_unf P0 (M0 Ls) sp_171 7]
  rfl
set_option maxRecDepth 100000 in
theorem E_171_61 (Ls d : Nat) (x1 : Int) (w : AW) : Lm P0 (M0 Ls) d m_Fv_search 61 [some (.inr (.inr 105)), some (.inl x1), none, none] [] w = Lm P0 (M0 Ls) d m_Fv_search 68 [some (.inr (.inr 105)), some (.inl x1), some (.inl (w32 (x1 * 16))), some (.inl 0)] [] w := by
  rw [Lm_unf P0 (M0 Ls) sp_171 8]
  rfl
set_option maxRecDepth 100000 in
theorem E_171_68 (Ls d : Nat) (x1 x2 x3 : Int) (w : AW) : Lm P0 (M0 Ls) d m_Fv_search 68 [some (.inr (.inr 105)), some (.inl x1), some (.inl x2), some (.inl x3)] [] w = (if x3 < x2 then (if 0 < (rd w 104 8) then (if (rd w 104 4) = 0 then Lk P0 (M0 Ls) d m_Fv_tryNext [.inr (.inr 105)] w (fun r_ w_ => Lm P0 (M0 Ls) d m_Fv_search 91 [some (.inr (.inr 105)), some (.inl x1), some (.inl x2), some (.inl x3)] (r_.toList ++ []) w_) else Lm P0 (M0 Ls) d m_Fv_search 97 [some (.inr (.inr 105)), some (.inl x1), some (.inl x2), some (.inl x3)] [] w) else Lm P0 (M0 Ls) d m_Fv_search 97 [some (.inr (.inr 105)), some (.inl x1), some (.inl x2), some (.inl x3)] [] w) else Lm P0 (M0 Ls) d m_Fv_search 97 [some (.inr (.inr 105)), some (.inl x1), some (.inl x2), some (.inl x3)] [] w) := by
  rw [Lm_unf P0 (M0 Ls) sp_171 12]
  rfl
set_option maxRecDepth 100000 in
theorem E_171_91 (Ls d : Nat) (x1 x2 x3 : Int) (w : AW) : Lm P0 (M0 Ls) d m_Fv_search 91 [some (.inr (.inr 105)), some (.inl x1), some (.inl x2), some (.inl x3)] [] w = Lm P0 (M0 Ls) d m_Fv_search 68 [some (.inr (.inr 105)), some (.inl x1), some (.inl x2), some (.inl (w32 (x3 + 1)))] [] w := by
  rw [Lm_unf P0 (M0 Ls) sp_171 4]
  rfl
set_option maxRecDepth 100000 in
theorem E_171_97 (Ls d : Nat) (x1 x2 x3 : Int) (w : AW) : Lm P0 (M0 Ls) d m_Fv_search 97 [some (.inr (.inr 105)), some (.inl x1), some (.inl x2), some (.inl x3)] [] w = some (none, w) := by
  rw [Lm_unf P0 (M0 Ls) sp_171 2]
  rfl
def sp_172 : Nat → Bool := fun q => [0, 16, 33, 38, 53, 63].contains q
set_option maxRecDepth 100000 in
theorem E_172_0 (Ls d : Nat) (p1 : Int) (w : AW) : Lm P0 (M0 Ls) d m_Fv_makeRows 0 [some (.inr (.inr 105)), some (.inl p1), none] [] w = (if (rd w 104 9) = 0 then Lm P0 (M0 Ls) d m_Fv_makeRows 16 [some (.inr (.inr 105)), some (.inl p1), none] [] w else (if 0 < (rd w 104 9) then (if 0 < (rd w 104 9) then (if 100 ≤ (shv (M0 Ls) w (adr (rd w 104 9))).1 ∧ (shv (M0 Ls) w (adr (rd w 104 9))).1 ≤ 112 then (if ((shv (M0 Ls) w (adr (rd w 104 9))).2 : Int) < p1 then Lm P0 (M0 Ls) d m_Fv_makeRows 16 [some (.inr (.inr 105)), some (.inl p1), none] [] w else Lm P0 (M0 Ls) d m_Fv_makeRows 53 [some (.inr (.inr 105)), some (.inl p1), none] [] w) else none) else none) else none)) := by
  rw [Lm_unf P0 (M0 Ls) sp_172 10]
  rfl
set_option maxRecDepth 100000 in
theorem E_172_16 (Ls d : Nat) (x1 : Int) (w : AW) : Lm P0 (M0 Ls) d m_Fv_makeRows 16 [some (.inr (.inr 105)), some (.inl x1), none] [] w = (if (rd w 104 9) = 0 then Lm P0 (M0 Ls) d m_Fv_makeRows 33 [some (.inr (.inr 105)), some (.inl x1), none] [.inl 0, .inl x1] w else (if 0 < (rd w 104 9) then (if 0 < (rd w 104 9) then (if 100 ≤ (shv (M0 Ls) w (adr (rd w 104 9))).1 ∧ (shv (M0 Ls) w (adr (rd w 104 9))).1 ≤ 112 then Lm P0 (M0 Ls) d m_Fv_makeRows 33 [some (.inr (.inr 105)), some (.inl x1), none] [.inl ((shv (M0 Ls) w (adr (rd w 104 9))).2 : Int), .inl x1] w else none) else none) else none)) := by
  rw [Lm_unf P0 (M0 Ls) sp_172 9]
  rfl
set_option maxRecDepth 100000 in
theorem E_172_33 (Ls d : Nat) (x1 y0 y1 : Int) (w : AW) : Lm P0 (M0 Ls) d m_Fv_makeRows 33 [some (.inr (.inr 105)), some (.inl x1), none] [.inl y0, .inl y1] w = Lk P0 (M0 Ls) d m_E_roomFor [.inl y1, .inl y0, .inl 32768] w (fun r_ w_ => Lm P0 (M0 Ls) d m_Fv_makeRows 38 [some (.inr (.inr 105)), some (.inl x1), none] (r_.toList ++ []) w_) := by
  rw [Lm_unf P0 (M0 Ls) sp_172 3]
  rfl
set_option maxRecDepth 100000 in
theorem E_172_38 (Ls d : Nat) (x1 y0 : Int) (w : AW) : Lm P0 (M0 Ls) d m_Fv_makeRows 38 [some (.inr (.inr 105)), some (.inl x1), none] [.inl y0] w = (if 0 ≤ y0 ∧ y0 ≤ 1000000 then (if 0 ≤ y0 ∧ y0 ≤ 1000000 then Lm P0 (M0 Ls) d m_Fv_makeRows 53 [some (.inr (.inr 105)), some (.inl x1), some (.inl y0)] [] (wC (alloc (wC (alloc w 100 (Int.toNat y0)) 104 9 ((w.1 : Int) + 1)) 100 (Int.toNat y0)) 104 7 (((wC (alloc w 100 (Int.toNat y0)) 104 9 ((w.1 : Int) + 1)).1 : Int) + 1)) else none) else none) := by
  rw [Lm_unf P0 (M0 Ls) sp_172 11]
  rfl
set_option maxRecDepth 100000 in
theorem E_172_53 (Ls d : Nat) (x1 : Int) (u2 : Option AV) (w : AW) : Lm P0 (M0 Ls) d m_Fv_makeRows 53 [some (.inr (.inr 105)), some (.inl x1), u2] [] w = Lk P0 (M0 Ls) d m_Arrays_fill2 [.inr (.inr (rd w 104 9)), .inl 0, .inl x1, .inl 0] w (fun r_ w_ => Lm P0 (M0 Ls) d m_Fv_makeRows 63 [some (.inr (.inr 105)), some (.inl x1), u2] (r_.toList ++ []) w_) := by
  rw [Lm_unf P0 (M0 Ls) sp_172 7]
  rfl
set_option maxRecDepth 100000 in
theorem E_172_63 (Ls d : Nat) (x1 : Int) (u2 : Option AV) (w : AW) : Lm P0 (M0 Ls) d m_Fv_makeRows 63 [some (.inr (.inr 105)), some (.inl x1), u2] [] w = some (none, w) := by
  rw [Lm_unf P0 (M0 Ls) sp_172 2]
  rfl
def sp_173 : Nat → Bool := fun q => [0, 45].contains q
set_option maxRecDepth 100000 in
theorem E_173_0 (Ls d : Nat) (p1 : Int) (w : AW) : Lm P0 (M0 Ls) d m_Fv_enter 0 [some (.inr (.inr 105)), some (.inl p1)] [] w = (if 0 < (rd w 104 7) then (if 100 ≤ (shv (M0 Ls) w (adr (rd w 104 7))).1 ∧ (shv (M0 Ls) w (adr (rd w 104 7))).1 ≤ 112 then (if (rd w 104 8) < ((shv (M0 Ls) w (adr (rd w 104 7))).2 : Int) then (arN (M0 Ls) w (rd w 104 7) 100 100 100 none (fun a1 n1 => (if (0 : Int) ≤ (rd w 104 8) ∧ (rd w 104 8) < (n1 : Int) then (arN (M0 Ls) (wC (wC w a1 (rd w 104 8) (w32 (p1 * 16))) 104 8 (w32 ((rd (wC w a1 (rd w 104 8) (w32 (p1 * 16))) 104 8) + 1))) (rd (wC (wC w a1 (rd w 104 8) (w32 (p1 * 16))) 104 8 (w32 ((rd (wC w a1 (rd w 104 8) (w32 (p1 * 16))) 104 8) + 1))) 104 9) 100 100 100 none (fun a2 n2 => (if (0 : Int) ≤ p1 ∧ p1 < (n2 : Int) then Lm P0 (M0 Ls) d m_Fv_enter 45 [some (.inr (.inr 105)), some (.inl p1)] [] (wC (wC (wC w a1 (rd w 104 8) (w32 (p1 * 16))) 104 8 (w32 ((rd (wC w a1 (rd w 104 8) (w32 (p1 * 16))) 104 8) + 1))) a2 p1 (rd (wC (wC w a1 (rd w 104 8) (w32 (p1 * 16))) 104 8 (w32 ((rd (wC w a1 (rd w 104 8) (w32 (p1 * 16))) 104 8) + 1))) 104 8)) else none))) else none))) else Lm P0 (M0 Ls) d m_Fv_enter 45 [some (.inr (.inr 105)), some (.inl p1)] [] w) else none) else none) := by
  rw [Lm_unf P0 (M0 Ls) sp_173 28]
  rfl
set_option maxRecDepth 100000 in
theorem E_173_45 (Ls d : Nat) (x1 : Int) (w : AW) : Lm P0 (M0 Ls) d m_Fv_enter 45 [some (.inr (.inr 105)), some (.inl x1)] [] w = some (none, w) := by
  rw [Lm_unf P0 (M0 Ls) sp_173 2]
  rfl
def sp_174 : Nat → Bool := fun q => [0, 61, 70, 79, 94, 118].contains q
set_option maxRecDepth 100000 in
theorem E_174_0 (Ls d : Nat) (w : AW) : Lm P0 (M0 Ls) d m_Fv_tryNext 0 [some (.inr (.inr 105)), none, none, none] [] w = (arN (M0 Ls) w (rd w 104 7) 100 110 110 none (fun a1 n1 => (if (0 : Int) ≤ (w32 ((rd w 104 8) - 1)) ∧ (w32 ((rd w 104 8) - 1)) < (n1 : Int) then (arN (M0 Ls) w (rd w 104 7) 100 100 100 none (fun a2 n2 => (if (0 : Int) ≤ (w32 ((rd w 104 8) - 1)) ∧ (w32 ((rd w 104 8) - 1)) < (n2 : Int) then (arN (M0 Ls) (wC w a2 (w32 ((rd w 104 8) - 1)) (w32 ((rd w a1 (w32 ((rd w 104 8) - 1))) + 1))) (rd (wC w a2 (w32 ((rd w 104 8) - 1)) (w32 ((rd w a1 (w32 ((rd w 104 8) - 1))) + 1))) 104 7) 100 110 110 none (fun a3 n3 => (if (0 : Int) ≤ (w32 ((rd (wC w a2 (w32 ((rd w 104 8) - 1)) (w32 ((rd w a1 (w32 ((rd w 104 8) - 1))) + 1))) 104 8) - 1)) ∧ (w32 ((rd (wC w a2 (w32 ((rd w 104 8) - 1)) (w32 ((rd w a1 (w32 ((rd w 104 8) - 1))) + 1))) 104 8) - 1)) < (n3 : Int) then (arN (M0 Ls) (wC w a2 (w32 ((rd w 104 8) - 1)) (w32 ((rd w a1 (w32 ((rd w 104 8) - 1))) + 1))) (rd (wC w a2 (w32 ((rd w 104 8) - 1)) (w32 ((rd w a1 (w32 ((rd w 104 8) - 1))) + 1))) 104 7) 100 110 110 none (fun a4 n4 => (if (0 : Int) ≤ (w32 ((rd (wC w a2 (w32 ((rd w 104 8) - 1)) (w32 ((rd w a1 (w32 ((rd w 104 8) - 1))) + 1))) 104 8) - 1)) ∧ (w32 ((rd (wC w a2 (w32 ((rd w 104 8) - 1)) (w32 ((rd w a1 (w32 ((rd w 104 8) - 1))) + 1))) 104 8) - 1)) < (n4 : Int) then (if (rd (wC w a2 (w32 ((rd w 104 8) - 1)) (w32 ((rd w a1 (w32 ((rd w 104 8) - 1))) + 1))) 57 0) < (Int.tmod (rd (wC w a2 (w32 ((rd w 104 8) - 1)) (w32 ((rd w a1 (w32 ((rd w 104 8) - 1))) + 1))) a4 (w32 ((rd (wC w a2 (w32 ((rd w 104 8) - 1)) (w32 ((rd w a1 (w32 ((rd w 104 8) - 1))) + 1))) 104 8) - 1))) 16) then Lk P0 (M0 Ls) d m_Fv_leave [.inr (.inr 105), .inl (w32 (Int.tdiv (rd (wC w a2 (w32 ((rd w 104 8) - 1)) (w32 ((rd w a1 (w32 ((rd w 104 8) - 1))) + 1))) a3 (w32 ((rd (wC w a2 (w32 ((rd w 104 8) - 1)) (w32 ((rd w a1 (w32 ((rd w 104 8) - 1))) + 1))) 104 8) - 1))) 16))] (wC w a2 (w32 ((rd w 104 8) - 1)) (w32 ((rd w a1 (w32 ((rd w 104 8) - 1))) + 1))) (fun r_ w_ => Lm P0 (M0 Ls) d m_Fv_tryNext 61 [some (.inr (.inr 105)), some (.inl (w32 (Int.tdiv (rd (wC w a2 (w32 ((rd w 104 8) - 1)) (w32 ((rd w a1 (w32 ((rd w 104 8) - 1))) + 1))) a3 (w32 ((rd (wC w a2 (w32 ((rd w 104 8) - 1)) (w32 ((rd w a1 (w32 ((rd w 104 8) - 1))) + 1))) 104 8) - 1))) 16))), some (.inl (Int.tmod (rd (wC w a2 (w32 ((rd w 104 8) - 1)) (w32 ((rd w a1 (w32 ((rd w 104 8) - 1))) + 1))) a4 (w32 ((rd (wC w a2 (w32 ((rd w 104 8) - 1)) (w32 ((rd w a1 (w32 ((rd w 104 8) - 1))) + 1))) 104 8) - 1))) 16)), none] (r_.toList ++ []) w_) else Lk P0 (M0 Ls) d m_Fv_leadsOn [.inr (.inr 105), .inl (w32 (Int.tdiv (rd (wC w a2 (w32 ((rd w 104 8) - 1)) (w32 ((rd w a1 (w32 ((rd w 104 8) - 1))) + 1))) a3 (w32 ((rd (wC w a2 (w32 ((rd w 104 8) - 1)) (w32 ((rd w a1 (w32 ((rd w 104 8) - 1))) + 1))) 104 8) - 1))) 16)), .inl (Int.tmod (rd (wC w a2 (w32 ((rd w 104 8) - 1)) (w32 ((rd w a1 (w32 ((rd w 104 8) - 1))) + 1))) a4 (w32 ((rd (wC w a2 (w32 ((rd w 104 8) - 1)) (w32 ((rd w a1 (w32 ((rd w 104 8) - 1))) + 1))) 104 8) - 1))) 16)] (wC w a2 (w32 ((rd w 104 8) - 1)) (w32 ((rd w a1 (w32 ((rd w 104 8) - 1))) + 1))) (fun r_ w_ => Lm P0 (M0 Ls) d m_Fv_tryNext 70 [some (.inr (.inr 105)), some (.inl (w32 (Int.tdiv (rd (wC w a2 (w32 ((rd w 104 8) - 1)) (w32 ((rd w a1 (w32 ((rd w 104 8) - 1))) + 1))) a3 (w32 ((rd (wC w a2 (w32 ((rd w 104 8) - 1)) (w32 ((rd w a1 (w32 ((rd w 104 8) - 1))) + 1))) 104 8) - 1))) 16))), some (.inl (Int.tmod (rd (wC w a2 (w32 ((rd w 104 8) - 1)) (w32 ((rd w a1 (w32 ((rd w 104 8) - 1))) + 1))) a4 (w32 ((rd (wC w a2 (w32 ((rd w 104 8) - 1)) (w32 ((rd w a1 (w32 ((rd w 104 8) - 1))) + 1))) 104 8) - 1))) 16)), none] (r_.toList ++ []) w_)) else none))) else none))) else none))) else none))) := by
  rw [Lm_unf P0 (M0 Ls) sp_174 41]
  rfl
set_option maxRecDepth 100000 in
theorem E_174_61 (Ls d : Nat) (x1 x2 : Int) (w : AW) : Lm P0 (M0 Ls) d m_Fv_tryNext 61 [some (.inr (.inr 105)), some (.inl x1), some (.inl x2), none] [] w = Lm P0 (M0 Ls) d m_Fv_tryNext 118 [some (.inr (.inr 105)), some (.inl x1), some (.inl x2), none] [] w := by
  rw [Lm_unf P0 (M0 Ls) sp_174 3]
  rfl
set_option maxRecDepth 100000 in
theorem E_174_70 (Ls d : Nat) (x1 x2 y0 : Int) (w : AW) : Lm P0 (M0 Ls) d m_Fv_tryNext 70 [some (.inr (.inr 105)), some (.inl x1), some (.inl x2), none] [.inl y0] w = (if y0 = 0 then Lm P0 (M0 Ls) d m_Fv_tryNext 118 [some (.inr (.inr 105)), some (.inl x1), some (.inl x2), none] [] w else Lk P0 (M0 Ls) d m_Fv_placeAfter [.inr (.inr 105), .inl x1, .inl x2] w (fun r_ w_ => Lm P0 (M0 Ls) d m_Fv_tryNext 79 [some (.inr (.inr 105)), some (.inl x1), some (.inl x2), none] (r_.toList ++ []) w_)) := by
  rw [Lm_unf P0 (M0 Ls) sp_174 6]
  rfl
set_option maxRecDepth 100000 in
theorem E_174_79 (Ls d : Nat) (x1 x2 y0 : Int) (w : AW) : Lm P0 (M0 Ls) d m_Fv_tryNext 79 [some (.inr (.inr 105)), some (.inl x1), some (.inl x2), none] [.inl y0] w = (arN (M0 Ls) w (rd w 104 9) 100 110 110 none (fun a1 n1 => (if (0 : Int) ≤ y0 ∧ y0 < (n1 : Int) then (if (rd w a1 y0) = 0 then Lk P0 (M0 Ls) d m_Fv_enter [.inr (.inr 105), .inl y0] w (fun r_ w_ => Lm P0 (M0 Ls) d m_Fv_tryNext 94 [some (.inr (.inr 105)), some (.inl x1), some (.inl x2), some (.inl y0)] (r_.toList ++ []) w_) else (arN (M0 Ls) w (rd w 104 9) 100 110 110 none (fun a2 n2 => (if (0 : Int) ≤ y0 ∧ y0 < (n2 : Int) then (if 0 < (rd w a2 y0) then (arN (M0 Ls) w (rd w 104 9) 100 110 110 none (fun a3 n3 => (if (0 : Int) ≤ y0 ∧ y0 < (n3 : Int) then Lk P0 (M0 Ls) d m_Fv_close [.inr (.inr 105), .inl (w32 ((rd w a3 y0) - 1))] w (fun r_ w_ => Lm P0 (M0 Ls) d m_Fv_tryNext 118 [some (.inr (.inr 105)), some (.inl x1), some (.inl x2), some (.inl y0)] (r_.toList ++ []) w_) else none))) else Lm P0 (M0 Ls) d m_Fv_tryNext 118 [some (.inr (.inr 105)), some (.inl x1), some (.inl x2), some (.inl y0)] [] w) else none)))) else none))) := by
  rw [Lm_unf P0 (M0 Ls) sp_174 20]
  rfl
set_option maxRecDepth 100000 in
theorem E_174_94 (Ls d : Nat) (x1 x2 x3 : Int) (w : AW) : Lm P0 (M0 Ls) d m_Fv_tryNext 94 [some (.inr (.inr 105)), some (.inl x1), some (.inl x2), some (.inl x3)] [] w = Lm P0 (M0 Ls) d m_Fv_tryNext 118 [some (.inr (.inr 105)), some (.inl x1), some (.inl x2), some (.inl x3)] [] w := by
  rw [Lm_unf P0 (M0 Ls) sp_174 3]
  rfl
set_option maxRecDepth 100000 in
theorem E_174_118 (Ls d : Nat) (x1 x2 : Int) (u3 : Option AV) (w : AW) : Lm P0 (M0 Ls) d m_Fv_tryNext 118 [some (.inr (.inr 105)), some (.inl x1), some (.inl x2), u3] [] w = some (none, w) := by
  rw [Lm_unf P0 (M0 Ls) sp_174 2]
  rfl
def sp_175 : Nat → Bool := fun q => [0, 4, 21, 35, 40, 41].contains q
set_option maxRecDepth 100000 in
theorem E_175_0 (Ls d : Nat) (p1 : Int) (w : AW) : Lm P0 (M0 Ls) d m_Fv_leave 0 [some (.inr (.inr 105)), some (.inl p1), none, none] [] w = Lm P0 (M0 Ls) d m_Fv_leave 4 [some (.inr (.inr 105)), some (.inl p1), some (.inl 0), some (.inl 1)] [] w := by
  rw [Lm_unf P0 (M0 Ls) sp_175 6]
  rfl
set_option maxRecDepth 100000 in
theorem E_175_4 (Ls d : Nat) (x1 x2 x3 : Int) (w : AW) : Lm P0 (M0 Ls) d m_Fv_leave 4 [some (.inr (.inr 105)), some (.inl x1), some (.inl x2), some (.inl x3)] [] w = (if (rd w 57 0) < x3 then (arN (M0 Ls) w (rd w 104 9) 100 100 100 none (fun a1 n1 => (if (0 : Int) ≤ x1 ∧ x1 < (n1 : Int) then some (none, wC (wC (wC w a1 x1 (w32 ((-1) - x2))) 104 5 x2) 104 8 (w32 ((rd (wC (wC w a1 x1 (w32 ((-1) - x2))) 104 5 x2) 104 8) - 1))) else none))) else Lk P0 (M0 Ls) d m_Fv_leadsOn [.inr (.inr 105), .inl x1, .inl x3] w (fun r_ w_ => Lm P0 (M0 Ls) d m_Fv_leave 21 [some (.inr (.inr 105)), some (.inl x1), some (.inl x2), some (.inl x3)] (r_.toList ++ []) w_)) := by
  rw [Lm_unf P0 (M0 Ls) sp_175 23]
  rfl
set_option maxRecDepth 100000 in
theorem E_175_21 (Ls d : Nat) (x1 x2 x3 y0 : Int) (w : AW) : Lm P0 (M0 Ls) d m_Fv_leave 21 [some (.inr (.inr 105)), some (.inl x1), some (.inl x2), some (.inl x3)] [.inl y0] w = (if y0 = 0 then Lm P0 (M0 Ls) d m_Fv_leave 41 [some (.inr (.inr 105)), some (.inl x1), some (.inl x2), some (.inl x3)] [] w else Lk P0 (M0 Ls) d m_Fv_placeAfter [.inr (.inr 105), .inl x1, .inl x3] w (fun r_ w_ => Lm P0 (M0 Ls) d m_Fv_leave 35 [some (.inr (.inr 105)), some (.inl x1), some (.inl x2), some (.inl x3)] (r_.toList ++ [.inr (.inr (rd w 104 9)), .inl x2]) w_)) := by
  rw [Lm_unf P0 (M0 Ls) sp_175 9]
  rfl
set_option maxRecDepth 100000 in
theorem E_175_35 (Ls d : Nat) (x1 x2 x3 y0 y1 y2 : Int) (w : AW) : Lm P0 (M0 Ls) d m_Fv_leave 35 [some (.inr (.inr 105)), some (.inl x1), some (.inl x2), some (.inl x3)] [.inl y0, .inr (.inr y1), .inl y2] w = (arN (M0 Ls) w y1 100 110 110 none (fun a1 n1 => (if (0 : Int) ≤ y0 ∧ y0 < (n1 : Int) then Lk P0 (M0 Ls) d m_Math_max [.inl y2, .inl (w32 (-(rd w a1 y0)))] w (fun r_ w_ => Lm P0 (M0 Ls) d m_Fv_leave 40 [some (.inr (.inr 105)), some (.inl x1), some (.inl x2), some (.inl x3)] (r_.toList ++ []) w_) else none))) := by
  rw [Lm_unf P0 (M0 Ls) sp_175 4]
  rfl
set_option maxRecDepth 100000 in
theorem E_175_40 (Ls d : Nat) (x1 x2 x3 y0 : Int) (w : AW) : Lm P0 (M0 Ls) d m_Fv_leave 40 [some (.inr (.inr 105)), some (.inl x1), some (.inl x2), some (.inl x3)] [.inl y0] w = Lm P0 (M0 Ls) d m_Fv_leave 41 [some (.inr (.inr 105)), some (.inl x1), some (.inl y0), some (.inl x3)] [] w := by
  rw [Lm_unf P0 (M0 Ls) sp_175 3]
  rfl
set_option maxRecDepth 100000 in
theorem E_175_41 (Ls d : Nat) (x1 x2 x3 : Int) (w : AW) : Lm P0 (M0 Ls) d m_Fv_leave 41 [some (.inr (.inr 105)), some (.inl x1), some (.inl x2), some (.inl x3)] [] w = Lm P0 (M0 Ls) d m_Fv_leave 4 [some (.inr (.inr 105)), some (.inl x1), some (.inl x2), some (.inl (w32 (x3 + 1)))] [] w := by
  rw [Lm_unf P0 (M0 Ls) sp_175 4]
  rfl
def sp_176 : Nat → Bool := fun q => [0, 20, 46].contains q
set_option maxRecDepth 100000 in
theorem E_176_0 (Ls d : Nat) (p1 : Int) (w : AW) : Lm P0 (M0 Ls) d m_Fv_close 0 [some (.inr (.inr 105)), some (.inl p1), none, none, none] [] w = (if (w32 ((rd w 104 8) - p1)) < 1 then some (none, w) else Lm P0 (M0 Ls) d m_Fv_close 20 [some (.inr (.inr 105)), some (.inl p1), some (.inl (w32 ((rd w 104 8) - p1))), some (.inl 0), none] [] (wC w 104 4 1)) := by
  rw [Lm_unf P0 (M0 Ls) sp_176 15]
  rfl
set_option maxRecDepth 100000 in
theorem E_176_20 (Ls d : Nat) (x1 x2 x3 : Int) (u4 : Option AV) (w : AW) : Lm P0 (M0 Ls) d m_Fv_close 20 [some (.inr (.inr 105)), some (.inl x1), some (.inl x2), some (.inl x3), u4] [] w = (if x3 < 1000 then (if x3 < (rd w 104 8) then Lm P0 (M0 Ls) d m_Fv_close 46 [some (.inr (.inr 105)), some (.inl x1), some (.inl x2), some (.inl x3), u4] [.inl x3] w else if x2 = 0 then none else Lm P0 (M0 Ls) d m_Fv_close 46 [some (.inr (.inr 105)), some (.inl x1), some (.inl x2), some (.inl x3), u4] [.inl (w32 (x1 + (Int.tmod (w32 (x3 - x1)) x2)))] w) else some (none, w)) := by
  rw [Lm_unf P0 (M0 Ls) sp_176 16]
  rfl
set_option maxRecDepth 100000 in
theorem E_176_46 (Ls d : Nat) (x1 x2 x3 y0 : Int) (u4 : Option AV) (w : AW) : Lm P0 (M0 Ls) d m_Fv_close 46 [some (.inr (.inr 105)), some (.inl x1), some (.inl x2), some (.inl x3), u4] [.inl y0] w = (arN (M0 Ls) w (rd w 104 7) 100 110 110 none (fun a1 n1 => (if (0 : Int) ≤ y0 ∧ y0 < (n1 : Int) then (if 0 ≤ x3 ∧ x3 < 1000 then Lm P0 (M0 Ls) d m_Fv_close 20 [some (.inr (.inr 105)), some (.inl x1), some (.inl x2), some (.inl (w32 (x3 + 1))), some (.inl y0)] [] (wC w 105 x3 (w32 ((Int.tmod (rd w a1 y0) 16) - 1))) else none) else none))) := by
  rw [Lm_unf P0 (M0 Ls) sp_176 17]
  rfl
def sp_177 : Nat → Bool := fun q => [0, 19, 32].contains q
set_option maxRecDepth 100000 in
theorem E_177_0 (Ls d : Nat) (p1 p2 : Int) (w : AW) : Lm P0 (M0 Ls) d m_Fv_leadsOn 0 [some (.inr (.inr 105)), some (.inl p1), some (.inl p2)] [] w = if (rd w 104 6) = 0 then none else if (rd w 104 6) = 0 then none else Lk P0 (M0 Ls) d m_Tb_allowedIn [.inr (.inr 95), .inl (w32 (Int.tdiv p1 (rd w 104 6))), .inl (Int.tmod p1 (rd w 104 6))] w (fun r_ w_ => Lm P0 (M0 Ls) d m_Fv_leadsOn 19 [some (.inr (.inr 105)), some (.inl p1), some (.inl p2)] (r_.toList ++ []) w_) := by
  rw [Lm_unf P0 (M0 Ls) sp_177 12]
  rfl
set_option maxRecDepth 100000 in
theorem E_177_19 (Ls d : Nat) (x1 x2 y0 : Int) (w : AW) : Lm P0 (M0 Ls) d m_Fv_leadsOn 19 [some (.inr (.inr 105)), some (.inl x1), some (.inl x2)] [.inl y0] w = (if (i32 (fun x y => x &&& y) (i32 (fun x y => x >>> (y &&& 31)) y0 x2) 1) = 1 then Lm P0 (M0 Ls) d m_Fv_leadsOn 32 [some (.inr (.inr 105)), some (.inl x1), some (.inl x2)] [.inl 1] w else Lm P0 (M0 Ls) d m_Fv_leadsOn 32 [some (.inr (.inr 105)), some (.inl x1), some (.inl x2)] [.inl 0] w) := by
  rw [Lm_unf P0 (M0 Ls) sp_177 10]
  rfl
set_option maxRecDepth 100000 in
theorem E_177_32 (Ls d : Nat) (x1 x2 y0 : Int) (w : AW) : Lm P0 (M0 Ls) d m_Fv_leadsOn 32 [some (.inr (.inr 105)), some (.inl x1), some (.inl x2)] [.inl y0] w = (if rok 3 y0 = true then some (some (.inl y0), w) else none) := by
  rw [Lm_unf P0 (M0 Ls) sp_177 2]
  rfl
def sp_178 : Nat → Bool := fun q => [0, 37].contains q
set_option maxRecDepth 100000 in
theorem E_178_0 (Ls d : Nat) (p1 p2 : Int) (w : AW) : Lm P0 (M0 Ls) d m_Fv_placeAfter 0 [some (.inr (.inr 105)), some (.inl p1), some (.inl p2), none] [] w = if (rd w 104 6) = 0 then none else if (rd w 57 1) = 0 then none else if (rd w 104 6) = 0 then none else Lk P0 (M0 Ls) d m_Tb_after [.inr (.inr 95), .inl (Int.tmod p1 (rd w 104 6)), .inl p2] w (fun r_ w_ => Lm P0 (M0 Ls) d m_Fv_placeAfter 37 [some (.inr (.inr 105)), some (.inl p1), some (.inl p2), some (.inl (Int.tmod (w32 ((w32 (Int.tdiv p1 (rd w 104 6))) + 1)) (rd w 57 1)))] (r_.toList ++ [.inl (w32 ((Int.tmod (w32 ((w32 (Int.tdiv p1 (rd w 104 6))) + 1)) (rd w 57 1)) * (rd w 104 6)))]) w_) := by
  rw [Lm_unf P0 (M0 Ls) sp_178 24]
  rfl
set_option maxRecDepth 100000 in
theorem E_178_37 (Ls d : Nat) (x1 x2 x3 y0 y1 : Int) (w : AW) : Lm P0 (M0 Ls) d m_Fv_placeAfter 37 [some (.inr (.inr 105)), some (.inl x1), some (.inl x2), some (.inl x3)] [.inl y0, .inl y1] w = some (some (.inl (w32 (y1 + y0))), w) := by
  rw [Lm_unf P0 (M0 Ls) sp_178 3]
  rfl
