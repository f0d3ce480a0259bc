def sp_133 : Nat → Bool := fun q => [0].contains q
set_option maxRecDepth 100000 in
theorem E_133_0 (Ls d : Nat) (w : AW) : Lm P0 (M0 Ls) d m_Tb_forget 0 [some (.inr (.inr 95))] [] w = some (none, wC (wC w 94 4 0) 94 5 0) := by
  rw [Lm_unf P0 (M0 Ls) sp_133 8]
  rfl
def sp_134 : Nat → Bool := fun q => [0, 16, 33, 37, 47, 89, 116, 123, 124, 132].contains q
set_option maxRecDepth 100000 in
theorem E_134_0 (Ls d : Nat) (w : AW) : Lm P0 (M0 Ls) d m_Tb_areThere 0 [some (.inr (.inr 95)), none] [] w = (if (rd w 94 4) = 0 then Lk P0 (M0 Ls) d m_Rock_greatestLate [.inr (.inr 58)] w (fun r_ w_ => Lm P0 (M0 Ls) d m_Tb_areThere 16 [some (.inr (.inr 95)), none] (r_.toList ++ [.inl 1, .inr (.inr 95)]) w_) else Lm P0 (M0 Ls) d m_Tb_areThere 132 [some (.inr (.inr 95)), none] [] w) := by
  rw [Lm_unf P0 (M0 Ls) sp_134 9]
  rfl
set_option maxRecDepth 100000 in
theorem E_134_16 (Ls d : Nat) (y0 y1 : Int) (w : AW) : Lm P0 (M0 Ls) d m_Tb_areThere 16 [some (.inr (.inr 95)), none] [.inl y0, .inl y1, .inr (.inr 95)] w = (if 0 < (rd w 63 2) then Lm P0 (M0 Ls) d m_Tb_areThere 33 [some (.inr (.inr 95)), none] [.inl 1, .inl y0, .inl y1, .inr (.inr 95)] w else Lm P0 (M0 Ls) d m_Tb_areThere 33 [some (.inr (.inr 95)), none] [.inl 0, .inl y0, .inl y1, .inr (.inr 95)] w) := by
  rw [Lm_unf P0 (M0 Ls) sp_134 10]
  rfl
set_option maxRecDepth 100000 in
theorem E_134_33 (Ls d : Nat) (y0 y1 y2 : Int) (w : AW) : Lm P0 (M0 Ls) d m_Tb_areThere 33 [some (.inr (.inr 95)), none] [.inl y0, .inl y1, .inl y2, .inr (.inr 95)] w = Lk P0 (M0 Ls) d m_Math_max [.inl y2, .inl (w32 (y1 + y0))] w (fun r_ w_ => Lm P0 (M0 Ls) d m_Tb_areThere 37 [some (.inr (.inr 95)), none] (r_.toList ++ [.inr (.inr 95)]) w_) := by
  rw [Lm_unf P0 (M0 Ls) sp_134 3]
  rfl
set_option maxRecDepth 100000 in
theorem E_134_37 (Ls d : Nat) (y0 : Int) (w : AW) : Lm P0 (M0 Ls) d m_Tb_areThere 37 [some (.inr (.inr 95)), none] [.inl y0, .inr (.inr 95)] w = Lm P0 (M0 Ls) d m_Tb_areThere 47 [some (.inr (.inr 95)), some (.inl 0)] [] (wC (wC w 94 7 y0) 94 8 1) := by
  rw [Lm_unf P0 (M0 Ls) sp_134 8]
  rfl
set_option maxRecDepth 100000 in
theorem E_134_47 (Ls d : Nat) (x1 : Int) (w : AW) : Lm P0 (M0 Ls) d m_Tb_areThere 47 [some (.inr (.inr 95)), some (.inl x1)] [] w = (if x1 < (rd w 94 7) then (if 4096 < (rd w 94 8) then Lm P0 (M0 Ls) d m_Tb_areThere 89 [some (.inr (.inr 95)), some (.inl x1)] [] w else Lm P0 (M0 Ls) d m_Tb_areThere 47 [some (.inr (.inr 95)), some (.inl (w32 (x1 + 1)))] [] (wC w 94 8 (w32 ((rd w 94 8) * (w32 ((rd w 57 0) + 1)))))) else Lm P0 (M0 Ls) d m_Tb_areThere 89 [some (.inr (.inr 95)), some (.inl x1)] [] w) := by
  rw [Lm_unf P0 (M0 Ls) sp_134 22]
  rfl
set_option maxRecDepth 100000 in
theorem E_134_89 (Ls d : Nat) (x1 : Int) (w : AW) : Lm P0 (M0 Ls) d m_Tb_areThere 89 [some (.inr (.inr 95)), some (.inl x1)] [] w = (if 4096 < (rd w 94 8) then Lm P0 (M0 Ls) d m_Tb_areThere 123 [some (.inr (.inr 95)), some (.inl x1)] [.inr (.inr 95)] w else (if 12 < (rd w 94 7) then Lm P0 (M0 Ls) d m_Tb_areThere 123 [some (.inr (.inr 95)), some (.inl x1)] [.inr (.inr 95)] w else Lk P0 (M0 Ls) d m_Rock_isPlain [.inr (.inr 58)] w (fun r_ w_ => Lm P0 (M0 Ls) d m_Tb_areThere 116 [some (.inr (.inr 95)), some (.inl x1)] (r_.toList ++ [.inr (.inr 95)]) w_))) := by
  rw [Lm_unf P0 (M0 Ls) sp_134 13]
  rfl
set_option maxRecDepth 100000 in
theorem E_134_116 (Ls d : Nat) (x1 y0 : Int) (w : AW) : Lm P0 (M0 Ls) d m_Tb_areThere 116 [some (.inr (.inr 95)), some (.inl x1)] [.inl y0, .inr (.inr 95)] w = (if y0 = 0 then Lm P0 (M0 Ls) d m_Tb_areThere 123 [some (.inr (.inr 95)), some (.inl x1)] [.inr (.inr 95)] w else Lm P0 (M0 Ls) d m_Tb_areThere 124 [some (.inr (.inr 95)), some (.inl x1)] [.inl 1, .inr (.inr 95)] w) := by
  rw [Lm_unf P0 (M0 Ls) sp_134 5]
  rfl
set_option maxRecDepth 100000 in
theorem E_134_123 (Ls d : Nat) (x1 : Int) (w : AW) : Lm P0 (M0 Ls) d m_Tb_areThere 123 [some (.inr (.inr 95)), some (.inl x1)] [.inr (.inr 95)] w = Lm P0 (M0 Ls) d m_Tb_areThere 124 [some (.inr (.inr 95)), some (.inl x1)] [.inl 0, .inr (.inr 95)] w := by
  rw [Lm_unf P0 (M0 Ls) sp_134 3]
  rfl
set_option maxRecDepth 100000 in
theorem E_134_124 (Ls d : Nat) (x1 y0 : Int) (w : AW) : Lm P0 (M0 Ls) d m_Tb_areThere 124 [some (.inr (.inr 95)), some (.inl x1)] [.inl y0, .inr (.inr 95)] w = (if avok 3 (.inl y0) = true then Lm P0 (M0 Ls) d m_Tb_areThere 132 [some (.inr (.inr 95)), some (.inl x1)] [] (wC (wC w 94 6 y0) 94 4 1) else none) := by
  rw [Lm_unf P0 (M0 Ls) sp_134 6]
  rfl
set_option maxRecDepth 100000 in
theorem E_134_132 (Ls d : Nat) (u1 : Option AV) (w : AW) : Lm P0 (M0 Ls) d m_Tb_areThere 132 [some (.inr (.inr 95)), u1] [] w = (if rok 3 (rd w 94 6) = true then some (some (.inl (rd w 94 6)), w) else none) := by
  rw [Lm_unf P0 (M0 Ls) sp_134 4]
  rfl
def sp_135 : Nat → Bool := fun q => [0, 4, 30, 53, 59, 64, 73, 86, 109, 113, 128, 140].contains q
set_option maxRecDepth 100000 in
theorem E_135_0 (Ls d : Nat) (w : AW) : Lm P0 (M0 Ls) d m_Tb_ready 0 [some (.inr (.inr 95)), none] [] w = Lk P0 (M0 Ls) d m_Tb_areThere [.inr (.inr 95)] w (fun r_ w_ => Lm P0 (M0 Ls) d m_Tb_ready 4 [some (.inr (.inr 95)), none] (r_.toList ++ []) w_) := by
  rw [Lm_unf P0 (M0 Ls) sp_135 3]
  rfl
set_option maxRecDepth 100000 in
theorem E_135_4 (Ls d : Nat) (y0 : Int) (w : AW) : Lm P0 (M0 Ls) d m_Tb_ready 4 [some (.inr (.inr 95)), none] [.inl y0] w = (if y0 = 0 then some (some (.inl 0), w) else (if (rd w 94 3) = 0 then Lm P0 (M0 Ls) d m_Tb_ready 30 [some (.inr (.inr 95)), none] [] w else (if 0 < (rd w 94 3) then (if 0 < (rd w 94 3) then (if 100 ≤ (shv (M0 Ls) w (adr (rd w 94 3))).1 ∧ (shv (M0 Ls) w (adr (rd w 94 3))).1 ≤ 112 then (if ((shv (M0 Ls) w (adr (rd w 94 3))).2 : Int) < (w32 (2 * (rd w 94 8))) then Lm P0 (M0 Ls) d m_Tb_ready 30 [some (.inr (.inr 95)), none] [] w else Lm P0 (M0 Ls) d m_Tb_ready 64 [some (.inr (.inr 95)), none] [] w) else none) else none) else none))) := by
  rw [Lm_unf P0 (M0 Ls) sp_135 14]
  rfl
set_option maxRecDepth 100000 in
theorem E_135_30 (Ls d : Nat) (w : AW) : Lm P0 (M0 Ls) d m_Tb_ready 30 [some (.inr (.inr 95)), none] [] w = (if (rd w 94 3) = 0 then Lm P0 (M0 Ls) d m_Tb_ready 53 [some (.inr (.inr 95)), none] [.inl 0, .inl (w32 (2 * (rd w 94 8))), .inr (.inr 95)] w else (if 0 < (rd w 94 3) then (if 0 < (rd w 94 3) then (if 100 ≤ (shv (M0 Ls) w (adr (rd w 94 3))).1 ∧ (shv (M0 Ls) w (adr (rd w 94 3))).1 ≤ 112 then Lm P0 (M0 Ls) d m_Tb_ready 53 [some (.inr (.inr 95)), none] [.inl ((shv (M0 Ls) w (adr (rd w 94 3))).2 : Int), .inl (w32 (2 * (rd w 94 8))), .inr (.inr 95)] w else none) else none) else none)) := by
  rw [Lm_unf P0 (M0 Ls) sp_135 13]
  rfl
set_option maxRecDepth 100000 in
theorem E_135_53 (Ls d : Nat) (y0 y1 : Int) (w : AW) : Lm P0 (M0 Ls) d m_Tb_ready 53 [some (.inr (.inr 95)), none] [.inl y0, .inl y1, .inr (.inr 95)] w = Lk P0 (M0 Ls) d m_E_roomFor [.inl y1, .inl y0, .inl 8192] w (fun r_ w_ => Lm P0 (M0 Ls) d m_Tb_ready 59 [some (.inr (.inr 95)), none] (r_.toList ++ [.inr (.inr 95)]) w_) := by
  rw [Lm_unf P0 (M0 Ls) sp_135 3]
  rfl
set_option maxRecDepth 100000 in
theorem E_135_59 (Ls d : Nat) (y0 : Int) (w : AW) : Lm P0 (M0 Ls) d m_Tb_ready 59 [some (.inr (.inr 95)), none] [.inl y0, .inr (.inr 95)] w = (if 0 ≤ y0 ∧ y0 ≤ 1000000 then Lm P0 (M0 Ls) d m_Tb_ready 64 [some (.inr (.inr 95)), none] [] (wC (alloc w 100 (Int.toNat y0)) 94 3 ((w.1 : Int) + 1)) else none) := by
  rw [Lm_unf P0 (M0 Ls) sp_135 4]
  rfl
set_option maxRecDepth 100000 in
theorem E_135_64 (Ls d : Nat) (w : AW) : Lm P0 (M0 Ls) d m_Tb_ready 64 [some (.inr (.inr 95)), none] [] w = (if (rd w 94 5) = 0 then Lm P0 (M0 Ls) d m_Tb_ready 73 [some (.inr (.inr 95)), some (.inl 0)] [] w else Lm P0 (M0 Ls) d m_Tb_ready 140 [some (.inr (.inr 95)), none] [] w) := by
  rw [Lm_unf P0 (M0 Ls) sp_135 7]
  rfl
set_option maxRecDepth 100000 in
theorem E_135_73 (Ls d : Nat) (x1 : Int) (w : AW) : Lm P0 (M0 Ls) d m_Tb_ready 73 [some (.inr (.inr 95)), some (.inl x1)] [] w = (if x1 < (rd w 94 8) then Lk P0 (M0 Ls) d m_Tb_layVoices [.inr (.inr 95), .inl x1] w (fun r_ w_ => Lm P0 (M0 Ls) d m_Tb_ready 86 [some (.inr (.inr 95)), some (.inl x1)] (r_.toList ++ []) w_) else Lm P0 (M0 Ls) d m_Tb_ready 140 [some (.inr (.inr 95)), some (.inl x1)] [] (wC w 94 5 1)) := by
  rw [Lm_unf P0 (M0 Ls) sp_135 9]
  rfl
set_option maxRecDepth 100000 in
theorem E_135_86 (Ls d : Nat) (x1 : Int) (w : AW) : Lm P0 (M0 Ls) d m_Tb_ready 86 [some (.inr (.inr 95)), some (.inl x1)] [] w = (if 1 < (rd w 57 1) then Lk P0 (M0 Ls) d m_Tb_findAllowed [.inr (.inr 95), .inl 0] w (fun r_ w_ => Lm P0 (M0 Ls) d m_Tb_ready 109 [some (.inr (.inr 95)), some (.inl x1)] (r_.toList ++ [.inl (w32 (2 * x1)), .inr (.inr (rd w 94 3))]) w_) else Lm P0 (M0 Ls) d m_Tb_ready 113 [some (.inr (.inr 95)), some (.inl x1)] [.inl 0, .inl (w32 (2 * x1)), .inr (.inr (rd w 94 3))] w) := by
  rw [Lm_unf P0 (M0 Ls) sp_135 14]
  rfl
set_option maxRecDepth 100000 in
theorem E_135_109 (Ls d : Nat) (x1 y0 y1 y2 : Int) (w : AW) : Lm P0 (M0 Ls) d m_Tb_ready 109 [some (.inr (.inr 95)), some (.inl x1)] [.inl y0, .inl y1, .inr (.inr y2)] w = Lm P0 (M0 Ls) d m_Tb_ready 113 [some (.inr (.inr 95)), some (.inl x1)] [.inl y0, .inl y1, .inr (.inr y2)] w := by
  rw [Lm_unf P0 (M0 Ls) sp_135 3]
  rfl
set_option maxRecDepth 100000 in
theorem E_135_113 (Ls d : Nat) (x1 y0 y1 y2 : Int) (w : AW) : Lm P0 (M0 Ls) d m_Tb_ready 113 [some (.inr (.inr 95)), some (.inl x1)] [.inl y0, .inl y1, .inr (.inr y2)] w = (arN (M0 Ls) w y2 100 100 100 none (fun a1 n1 => (if (0 : Int) ≤ y1 ∧ y1 < (n1 : Int) then Lk P0 (M0 Ls) d m_Tb_findAllowed [.inr (.inr 95), .inl 1] (wC w a1 y1 y0) (fun r_ w_ => Lm P0 (M0 Ls) d m_Tb_ready 128 [some (.inr (.inr 95)), some (.inl x1)] (r_.toList ++ [.inl (w32 ((w32 (2 * x1)) + 1)), .inr (.inr (rd (wC w a1 y1 y0) 94 3))]) w_) else none))) := by
  rw [Lm_unf P0 (M0 Ls) sp_135 12]
  rfl
set_option maxRecDepth 100000 in
theorem E_135_128 (Ls d : Nat) (x1 y0 y1 y2 : Int) (w : AW) : Lm P0 (M0 Ls) d m_Tb_ready 128 [some (.inr (.inr 95)), some (.inl x1)] [.inl y0, .inl y1, .inr (.inr y2)] w = (arN (M0 Ls) w y2 100 100 100 none (fun a1 n1 => (if (0 : Int) ≤ y1 ∧ y1 < (n1 : Int) then Lm P0 (M0 Ls) d m_Tb_ready 73 [some (.inr (.inr 95)), some (.inl (w32 (x1 + 1)))] [] (wC w a1 y1 y0) else none))) := by
  rw [Lm_unf P0 (M0 Ls) sp_135 5]
  rfl
set_option maxRecDepth 100000 in
theorem E_135_140 (Ls d : Nat) (u1 : Option AV) (w : AW) : Lm P0 (M0 Ls) d m_Tb_ready 140 [some (.inr (.inr 95)), u1] [] w = some (some (.inl 1), w) := by
  rw [Lm_unf P0 (M0 Ls) sp_135 3]
  rfl
def sp_136 : Nat → Bool := fun q => [0, 29].contains q
set_option maxRecDepth 100000 in
theorem E_136_0 (Ls d : Nat) (p1 p2 : Int) (w : AW) : Lm P0 (M0 Ls) d m_Tb_after 0 [some (.inr (.inr 95)), some (.inl p1), some (.inl p2)] [] w = (if 0 < (rd w 94 8) then if (rd w 94 8) = 0 then none else Lm P0 (M0 Ls) d m_Tb_after 29 [some (.inr (.inr 95)), some (.inl p1), some (.inl p2)] [.inl (Int.tmod (w32 ((w32 (p1 * (w32 ((rd w 57 0) + 1)))) + p2)) (rd w 94 8))] w else Lm P0 (M0 Ls) d m_Tb_after 29 [some (.inr (.inr 95)), some (.inl p1), some (.inl p2)] [.inl 0] w) := by
  rw [Lm_unf P0 (M0 Ls) sp_136 18]
  rfl
set_option maxRecDepth 100000 in
theorem E_136_29 (Ls d : Nat) (x1 x2 y0 : Int) (w : AW) : Lm P0 (M0 Ls) d m_Tb_after 29 [some (.inr (.inr 95)), some (.inl x1), some (.inl x2)] [.inl y0] w = some (some (.inl y0), w) := by
  rw [Lm_unf P0 (M0 Ls) sp_136 2]
  rfl
def sp_137 : Nat → Bool := fun q => [0].contains q
set_option maxRecDepth 100000 in
theorem E_137_0 (Ls d : Nat) (p1 : Int) (w : AW) : Lm P0 (M0 Ls) d m_Tb_lastDigit 0 [some (.inr (.inr 95)), some (.inl p1)] [] w = if (w32 ((rd w 57 0) + 1)) = 0 then none else some (some (.inl (Int.tmod p1 (w32 ((rd w 57 0) + 1)))), w) := by
  rw [Lm_unf P0 (M0 Ls) sp_137 9]
  rfl
def sp_138 : Nat → Bool := fun q => [0, 11, 33, 43].contains q
set_option maxRecDepth 100000 in
theorem E_138_0 (Ls d : Nat) (p1 p2 : Int) (w : AW) : Lm P0 (M0 Ls) d m_Tb_allowedIn 0 [some (.inr (.inr 95)), some (.inl p1), some (.inl p2), none] [] w = Lk P0 (M0 Ls) d m_Rock_strongAt [.inr (.inr 58), .inl p1] w (fun r_ w_ => Lm P0 (M0 Ls) d m_Tb_allowedIn 11 [some (.inr (.inr 95)), some (.inl p1), some (.inl p2), none] (r_.toList ++ [.inl (w32 (2 * p2))]) w_) := by
  rw [Lm_unf P0 (M0 Ls) sp_138 8]
  rfl
set_option maxRecDepth 100000 in
theorem E_138_11 (Ls d : Nat) (x1 x2 y0 y1 : Int) (w : AW) : Lm P0 (M0 Ls) d m_Tb_allowedIn 11 [some (.inr (.inr 95)), some (.inl x1), some (.inl x2), none] [.inl y0, .inl y1] w = (if (rd w 94 3) = 0 then Lm P0 (M0 Ls) d m_Tb_allowedIn 33 [some (.inr (.inr 95)), some (.inl x1), some (.inl x2), some (.inl (w32 (y1 + y0)))] [] w else (if 0 < (rd w 94 3) then (if (w32 (y1 + y0)) < 0 then Lm P0 (M0 Ls) d m_Tb_allowedIn 33 [some (.inr (.inr 95)), some (.inl x1), some (.inl x2), some (.inl (w32 (y1 + y0)))] [] w else (if 0 < (rd w 94 3) then (if 100 ≤ (shv (M0 Ls) w (adr (rd w 94 3))).1 ∧ (shv (M0 Ls) w (adr (rd w 94 3))).1 ≤ 112 then (if (w32 (y1 + y0)) < ((shv (M0 Ls) w (adr (rd w 94 3))).2 : Int) then (arN (M0 Ls) w (rd w 94 3) 100 110 110 none (fun a1 n1 => (if (0 : Int) ≤ (w32 (y1 + y0)) ∧ (w32 (y1 + y0)) < (n1 : Int) then Lm P0 (M0 Ls) d m_Tb_allowedIn 43 [some (.inr (.inr 95)), some (.inl x1), some (.inl x2), some (.inl (w32 (y1 + y0)))] [.inl (rd w a1 (w32 (y1 + y0)))] w else none))) else Lm P0 (M0 Ls) d m_Tb_allowedIn 33 [some (.inr (.inr 95)), some (.inl x1), some (.inl x2), some (.inl (w32 (y1 + y0)))] [] w) else none) else none)) else none)) := by
  rw [Lm_unf P0 (M0 Ls) sp_138 18]
  rfl
set_option maxRecDepth 100000 in
theorem E_138_33 (Ls d : Nat) (x1 x2 x3 : Int) (w : AW) : Lm P0 (M0 Ls) d m_Tb_allowedIn 33 [some (.inr (.inr 95)), some (.inl x1), some (.inl x2), some (.inl x3)] [] w = Lm P0 (M0 Ls) d m_Tb_allowedIn 43 [some (.inr (.inr 95)), some (.inl x1), some (.inl x2), some (.inl x3)] [.inl 0] w := by
  rw [Lm_unf P0 (M0 Ls) sp_138 4]
  rfl
set_option maxRecDepth 100000 in
theorem E_138_43 (Ls d : Nat) (x1 x2 x3 y0 : Int) (w : AW) : Lm P0 (M0 Ls) d m_Tb_allowedIn 43 [some (.inr (.inr 95)), some (.inl x1), some (.inl x2), some (.inl x3)] [.inl y0] w = some (some (.inl y0), w) := by
  rw [Lm_unf P0 (M0 Ls) sp_138 2]
  rfl
def sp_139 : Nat → Bool := fun q => [0, 5, 27, 40, 47].contains q
set_option maxRecDepth 100000 in
theorem E_139_0 (Ls d : Nat) (p1 p2 : Int) (w : AW) : Lm P0 (M0 Ls) d m_Tb_endsWell 0 [some (.inr (.inr 95)), some (.inl p1), some (.inl p2), none, none] [] w = Lm P0 (M0 Ls) d m_Tb_endsWell 5 [some (.inr (.inr 95)), some (.inl p1), some (.inl p2), some (.inl p2), some (.inl 0)] [] w := by
  rw [Lm_unf P0 (M0 Ls) sp_139 6]
  rfl
set_option maxRecDepth 100000 in
theorem E_139_5 (Ls d : Nat) (x1 x2 x3 x4 : Int) (w : AW) : Lm P0 (M0 Ls) d m_Tb_endsWell 5 [some (.inr (.inr 95)), some (.inl x1), some (.inl x2), some (.inl x3), some (.inl x4)] [] w = (if x4 < (rd w 94 7) then (if x3 = 0 then Lm P0 (M0 Ls) d m_Tb_endsWell 47 [some (.inr (.inr 95)), some (.inl x1), some (.inl x2), some (.inl x3), some (.inl x4)] [] w else Lk P0 (M0 Ls) d m_Tb_allowedIn [.inr (.inr 95), .inl (w32 (x1 + x4)), .inl x3] w (fun r_ w_ => Lm P0 (M0 Ls) d m_Tb_endsWell 27 [some (.inr (.inr 95)), some (.inl x1), some (.inl x2), some (.inl x3), some (.inl x4)] (r_.toList ++ []) w_)) else Lm P0 (M0 Ls) d m_Tb_endsWell 47 [some (.inr (.inr 95)), some (.inl x1), some (.inl x2), some (.inl x3), some (.inl x4)] [] w) := by
  rw [Lm_unf P0 (M0 Ls) sp_139 13]
  rfl
set_option maxRecDepth 100000 in
theorem E_139_27 (Ls d : Nat) (x1 x2 x3 x4 y0 : Int) (w : AW) : Lm P0 (M0 Ls) d m_Tb_endsWell 27 [some (.inr (.inr 95)), some (.inl x1), some (.inl x2), some (.inl x3), some (.inl x4)] [.inl y0] w = (if (i32 (fun x y => x &&& y) y0 1) = 0 then some (some (.inl 0), w) else Lk P0 (M0 Ls) d m_Tb_after [.inr (.inr 95), .inl x3, .inl 0] w (fun r_ w_ => Lm P0 (M0 Ls) d m_Tb_endsWell 40 [some (.inr (.inr 95)), some (.inl x1), some (.inl x2), some (.inl x3), some (.inl x4)] (r_.toList ++ []) w_)) := by
  rw [Lm_unf P0 (M0 Ls) sp_139 8]
  rfl
set_option maxRecDepth 100000 in
theorem E_139_40 (Ls d : Nat) (x1 x2 x3 x4 y0 : Int) (w : AW) : Lm P0 (M0 Ls) d m_Tb_endsWell 40 [some (.inr (.inr 95)), some (.inl x1), some (.inl x2), some (.inl x3), some (.inl x4)] [.inl y0] w = Lm P0 (M0 Ls) d m_Tb_endsWell 5 [some (.inr (.inr 95)), some (.inl x1), some (.inl x2), some (.inl y0), some (.inl (w32 (x4 + 1)))] [] w := by
  rw [Lm_unf P0 (M0 Ls) sp_139 5]
  rfl
set_option maxRecDepth 100000 in
theorem E_139_47 (Ls d : Nat) (x1 x2 x3 x4 : Int) (w : AW) : Lm P0 (M0 Ls) d m_Tb_endsWell 47 [some (.inr (.inr 95)), some (.inl x1), some (.inl x2), some (.inl x3), some (.inl x4)] [] w = some (some (.inl 1), w) := by
  rw [Lm_unf P0 (M0 Ls) sp_139 3]
  rfl
def sp_140 : Nat → Bool := fun q => [0, 12, 27, 44, 78, 87, 100, 111].contains q
set_option maxRecDepth 100000 in
theorem E_140_0 (Ls d : Nat) (p1 : Int) (w : AW) : Lm P0 (M0 Ls) d m_Tb_findAllowed 0 [some (.inr (.inr 95)), some (.inl p1), none, none, none] [] w = Lm P0 (M0 Ls) d m_Tb_findAllowed 12 [some (.inr (.inr 95)), some (.inl p1), some (.inl (w32 (1 + (rd w 57 2)))), some (.inl 1), none] [] w := by
  rw [Lm_unf P0 (M0 Ls) sp_140 10]
  rfl
set_option maxRecDepth 100000 in
theorem E_140_12 (Ls d : Nat) (x1 x2 x3 : Int) (w : AW) : Lm P0 (M0 Ls) d m_Tb_findAllowed 12 [some (.inr (.inr 95)), some (.inl x1), some (.inl x2), some (.inl x3), none] [] w = (if x3 < x2 then Lk P0 (M0 Ls) d m_Judge_faultOf [.inr (.inr 88), .inl x3, .inl x2, .inl x1] w (fun r_ w_ => Lm P0 (M0 Ls) d m_Tb_findAllowed 27 [some (.inr (.inr 95)), some (.inl x1), some (.inl x2), some (.inl x3), none] (r_.toList ++ []) w_) else Lm P0 (M0 Ls) d m_Tb_findAllowed 44 [some (.inr (.inr 95)), some (.inl x1), some (.inl x2), some (.inl 0), some (.inl 0)] [] w) := by
  rw [Lm_unf P0 (M0 Ls) sp_140 10]
  rfl
set_option maxRecDepth 100000 in
theorem E_140_27 (Ls d : Nat) (x1 x2 x3 y0 : Int) (w : AW) : Lm P0 (M0 Ls) d m_Tb_findAllowed 27 [some (.inr (.inr 95)), some (.inl x1), some (.inl x2), some (.inl x3), none] [.inl y0] w = (if y0 = (-1) then Lm P0 (M0 Ls) d m_Tb_findAllowed 12 [some (.inr (.inr 95)), some (.inl x1), some (.inl x2), some (.inl (w32 (x3 + 1))), none] [] w else some (some (.inl 0), w)) := by
  rw [Lm_unf P0 (M0 Ls) sp_140 6]
  rfl
set_option maxRecDepth 100000 in
theorem E_140_44 (Ls d : Nat) (x1 x2 x3 x4 : Int) (w : AW) : Lm P0 (M0 Ls) d m_Tb_findAllowed 44 [some (.inr (.inr 95)), some (.inl x1), some (.inl x2), some (.inl x3), some (.inl x4)] [] w = (if (rd w 57 0) < x4 then some (some (.inl x3), w) else (if x4 = 0 then Lm P0 (M0 Ls) d m_Tb_findAllowed 78 [some (.inr (.inr 95)), some (.inl x1), some (.inl x2), some (.inl x3), some (.inl x4)] [.inl (-1000000), .inl 0, .inr (.inr 89)] w else Lm P0 (M0 Ls) d m_Tb_findAllowed 78 [some (.inr (.inr 95)), some (.inl x1), some (.inl x2), some (.inl x3), some (.inl x4)] [.inl (w32 (x4 - 1)), .inl 0, .inr (.inr 89)] w)) := by
  rw [Lm_unf P0 (M0 Ls) sp_140 16]
  rfl
set_option maxRecDepth 100000 in
theorem E_140_78 (Ls d : Nat) (x1 x2 x3 x4 y0 y1 : Int) (w : AW) : Lm P0 (M0 Ls) d m_Tb_findAllowed 78 [some (.inr (.inr 95)), some (.inl x1), some (.inl x2), some (.inl x3), some (.inl x4)] [.inl y0, .inl y1, .inr (.inr 89)] w = (if 0 ≤ y1 ∧ y1 < 9 then Lk P0 (M0 Ls) d m_Judge_brokenLeap [.inr (.inr 88), .inl x1] (wC w 88 y1 y0) (fun r_ w_ => Lm P0 (M0 Ls) d m_Tb_findAllowed 87 [some (.inr (.inr 95)), some (.inl x1), some (.inl x2), some (.inl x3), some (.inl x4)] (r_.toList ++ []) w_) else none) := by
  rw [Lm_unf P0 (M0 Ls) sp_140 6]
  rfl
set_option maxRecDepth 100000 in
theorem E_140_87 (Ls d : Nat) (x1 x2 x3 x4 y0 : Int) (w : AW) : Lm P0 (M0 Ls) d m_Tb_findAllowed 87 [some (.inr (.inr 95)), some (.inl x1), some (.inl x2), some (.inl x3), some (.inl x4)] [.inl y0] w = (if y0 < 0 then Lk P0 (M0 Ls) d m_Judge_faultOf [.inr (.inr 88), .inl 0, .inl x2, .inl x1] w (fun r_ w_ => Lm P0 (M0 Ls) d m_Tb_findAllowed 100 [some (.inr (.inr 95)), some (.inl x1), some (.inl x2), some (.inl x3), some (.inl x4)] (r_.toList ++ []) w_) else Lm P0 (M0 Ls) d m_Tb_findAllowed 111 [some (.inr (.inr 95)), some (.inl x1), some (.inl x2), some (.inl x3), some (.inl x4)] [] w) := by
  rw [Lm_unf P0 (M0 Ls) sp_140 8]
  rfl
set_option maxRecDepth 100000 in
theorem E_140_100 (Ls d : Nat) (x1 x2 x3 x4 y0 : Int) (w : AW) : Lm P0 (M0 Ls) d m_Tb_findAllowed 100 [some (.inr (.inr 95)), some (.inl x1), some (.inl x2), some (.inl x3), some (.inl x4)] [.inl y0] w = (if y0 = (-1) then Lm P0 (M0 Ls) d m_Tb_findAllowed 111 [some (.inr (.inr 95)), some (.inl x1), some (.inl x2), some (.inl (i32 (fun x y => x ||| y) x3 (i32 (fun x y => x <<< (y &&& 31)) 1 x4))), some (.inl x4)] [] w else Lm P0 (M0 Ls) d m_Tb_findAllowed 111 [some (.inr (.inr 95)), some (.inl x1), some (.inl x2), some (.inl x3), some (.inl x4)] [] w) := by
  rw [Lm_unf P0 (M0 Ls) sp_140 10]
  rfl
set_option maxRecDepth 100000 in
theorem E_140_111 (Ls d : Nat) (x1 x2 x3 x4 : Int) (w : AW) : Lm P0 (M0 Ls) d m_Tb_findAllowed 111 [some (.inr (.inr 95)), some (.inl x1), some (.inl x2), some (.inl x3), some (.inl x4)] [] w = Lm P0 (M0 Ls) d m_Tb_findAllowed 44 [some (.inr (.inr 95)), some (.inl x1), some (.inl x2), some (.inl x3), some (.inl (w32 (x4 + 1)))] [] w := by
  rw [Lm_unf P0 (M0 Ls) sp_140 4]
  rfl
def sp_141 : Nat → Bool := fun q => [0, 4, 53, 83, 86, 125, 128, 159, 162].contains q
set_option maxRecDepth 100000 in
theorem E_141_0 (Ls d : Nat) (p1 : Int) (w : AW) : Lm P0 (M0 Ls) d m_Tb_layVoices 0 [some (.inr (.inr 95)), some (.inl p1), none, none] [] w = Lm P0 (M0 Ls) d m_Tb_layVoices 4 [some (.inr (.inr 95)), some (.inl p1), some (.inl p1), some (.inl 1)] [] w := by
  rw [Lm_unf P0 (M0 Ls) sp_141 6]
  rfl
set_option maxRecDepth 100000 in
theorem E_141_4 (Ls d : Nat) (x1 x2 x3 : Int) (w : AW) : Lm P0 (M0 Ls) d m_Tb_layVoices 4 [some (.inr (.inr 95)), some (.inl x1), some (.inl x2), some (.inl x3)] [] w = (if (rd w 94 7) < x3 then Lm P0 (M0 Ls) d m_Tb_layVoices 53 [some (.inr (.inr 95)), some (.inl x1), some (.inl x2), some (.inl x3)] [] w else (if 12 < x3 then Lm P0 (M0 Ls) d m_Tb_layVoices 53 [some (.inr (.inr 95)), some (.inl x1), some (.inl x2), some (.inl x3)] [] w else if (w32 ((rd w 57 0) + 1)) = 0 then none else (if 0 ≤ x3 ∧ x3 < 13 then if (w32 ((rd (wC w 95 x3 (Int.tmod x2 (w32 ((rd w 57 0) + 1)))) 57 0) + 1)) = 0 then none else Lm P0 (M0 Ls) d m_Tb_layVoices 4 [some (.inr (.inr 95)), some (.inl x1), some (.inl (w32 (Int.tdiv x2 (w32 ((rd (wC w 95 x3 (Int.tmod x2 (w32 ((rd w 57 0) + 1)))) 57 0) + 1))))), some (.inl (w32 (x3 + 1)))] [] (wC w 95 x3 (Int.tmod x2 (w32 ((rd w 57 0) + 1)))) else none))) := by
  rw [Lm_unf P0 (M0 Ls) sp_141 30]
  rfl
set_option maxRecDepth 100000 in
theorem E_141_53 (Ls d : Nat) (x1 x2 x3 : Int) (w : AW) : Lm P0 (M0 Ls) d m_Tb_layVoices 53 [some (.inr (.inr 95)), some (.inl x1), some (.inl x2), some (.inl x3)] [] w = (if (rd w 95 1) = 0 then Lm P0 (M0 Ls) d m_Tb_layVoices 83 [some (.inr (.inr 95)), some (.inl x1), some (.inl x2), some (.inl x3)] [.inl (-1000000), .inl 0, .inr (.inr 90)] w else Lm P0 (M0 Ls) d m_Tb_layVoices 83 [some (.inr (.inr 95)), some (.inl x1), some (.inl x2), some (.inl x3)] [.inl (w32 ((rd w 95 1) - 1)), .inl 0, .inr (.inr 90)] w) := by
  rw [Lm_unf P0 (M0 Ls) sp_141 17]
  rfl
set_option maxRecDepth 100000 in
theorem E_141_83 (Ls d : Nat) (x1 x2 x3 y0 y1 : Int) (w : AW) : Lm P0 (M0 Ls) d m_Tb_layVoices 83 [some (.inr (.inr 95)), some (.inl x1), some (.inl x2), some (.inl x3)] [.inl y0, .inl y1, .inr (.inr 90)] w = (if 0 ≤ y1 ∧ y1 < 9 then Lm P0 (M0 Ls) d m_Tb_layVoices 86 [some (.inr (.inr 95)), some (.inl x1), some (.inl x2), some (.inl 0)] [] (wC w 89 y1 y0) else none) := by
  rw [Lm_unf P0 (M0 Ls) sp_141 5]
  rfl
set_option maxRecDepth 100000 in
theorem E_141_86 (Ls d : Nat) (x1 x2 x3 : Int) (w : AW) : Lm P0 (M0 Ls) d m_Tb_layVoices 86 [some (.inr (.inr 95)), some (.inl x1), some (.inl x2), some (.inl x3)] [] w = (if x3 < (rd w 57 2) then (if 0 ≤ x3 ∧ x3 < 8 then Lk P0 (M0 Ls) d m_Tb_notePast [.inr (.inr 95), .inl (rd w 58 x3)] w (fun r_ w_ => Lm P0 (M0 Ls) d m_Tb_layVoices 125 [some (.inr (.inr 95)), some (.inl x1), some (.inl x2), some (.inl x3)] (r_.toList ++ [.inl x3, .inr (.inr 58), .inl (w32 (1 + x3)), .inr (.inr 89)]) w_) else none) else some (none, w)) := by
  rw [Lm_unf P0 (M0 Ls) sp_141 22]
  rfl
set_option maxRecDepth 100000 in
theorem E_141_125 (Ls d : Nat) (x1 x2 x3 y0 y1 y3 : Int) (w : AW) : Lm P0 (M0 Ls) d m_Tb_layVoices 125 [some (.inr (.inr 95)), some (.inl x1), some (.inl x2), some (.inl x3)] [.inl y0, .inl y1, .inr (.inr 58), .inl y3, .inr (.inr 89)] w = Lk P0 (M0 Ls) d m_Rock_givenBack [.inr (.inr 58), .inl y1, .inl y0] w (fun r_ w_ => Lm P0 (M0 Ls) d m_Tb_layVoices 128 [some (.inr (.inr 95)), some (.inl x1), some (.inl x2), some (.inl x3)] (r_.toList ++ [.inl y3, .inr (.inr 89)]) w_) := by
  rw [Lm_unf P0 (M0 Ls) sp_141 2]
  rfl
set_option maxRecDepth 100000 in
theorem E_141_128 (Ls d : Nat) (x1 x2 x3 y0 y1 : Int) (w : AW) : Lm P0 (M0 Ls) d m_Tb_layVoices 128 [some (.inr (.inr 95)), some (.inl x1), some (.inl x2), some (.inl x3)] [.inl y0, .inl y1, .inr (.inr 89)] w = (if 0 ≤ y1 ∧ y1 < 9 then (if 0 ≤ x3 ∧ x3 < 8 then Lk P0 (M0 Ls) d m_Tb_notePast [.inr (.inr 95), .inl (w32 ((rd (wC w 88 y1 y0) 58 x3) + 1))] (wC w 88 y1 y0) (fun r_ w_ => Lm P0 (M0 Ls) d m_Tb_layVoices 159 [some (.inr (.inr 95)), some (.inl x1), some (.inl x2), some (.inl x3)] (r_.toList ++ [.inl x3, .inr (.inr 58), .inl (w32 (1 + x3)), .inr (.inr 90)]) w_) else none) else none) := by
  rw [Lm_unf P0 (M0 Ls) sp_141 20]
  rfl
set_option maxRecDepth 100000 in
theorem E_141_159 (Ls d : Nat) (x1 x2 x3 y0 y1 y3 : Int) (w : AW) : Lm P0 (M0 Ls) d m_Tb_layVoices 159 [some (.inr (.inr 95)), some (.inl x1), some (.inl x2), some (.inl x3)] [.inl y0, .inl y1, .inr (.inr 58), .inl y3, .inr (.inr 90)] w = Lk P0 (M0 Ls) d m_Rock_givenBack [.inr (.inr 58), .inl y1, .inl y0] w (fun r_ w_ => Lm P0 (M0 Ls) d m_Tb_layVoices 162 [some (.inr (.inr 95)), some (.inl x1), some (.inl x2), some (.inl x3)] (r_.toList ++ [.inl y3, .inr (.inr 90)]) w_) := by
  rw [Lm_unf P0 (M0 Ls) sp_141 2]
  rfl
set_option maxRecDepth 100000 in
theorem E_141_162 (Ls d : Nat) (x1 x2 x3 y0 y1 : Int) (w : AW) : Lm P0 (M0 Ls) d m_Tb_layVoices 162 [some (.inr (.inr 95)), some (.inl x1), some (.inl x2), some (.inl x3)] [.inl y0, .inl y1, .inr (.inr 90)] w = (if 0 ≤ y1 ∧ y1 < 9 then Lm P0 (M0 Ls) d m_Tb_layVoices 86 [some (.inr (.inr 95)), some (.inl x1), some (.inl x2), some (.inl (w32 (x3 + 1)))] [] (wC w 89 y1 y0) else none) := by
  rw [Lm_unf P0 (M0 Ls) sp_141 5]
  rfl
def sp_142 : Nat → Bool := fun q => [0, 19, 31].contains q
set_option maxRecDepth 100000 in
theorem E_142_0 (Ls d : Nat) (p1 : Int) (w : AW) : Lm P0 (M0 Ls) d m_Tb_notePast 0 [some (.inr (.inr 95)), some (.inl p1)] [] w = (if p1 < 1 then Lm P0 (M0 Ls) d m_Tb_notePast 19 [some (.inr (.inr 95)), some (.inl p1)] [] w else (if (rd w 94 7) < p1 then Lm P0 (M0 Ls) d m_Tb_notePast 19 [some (.inr (.inr 95)), some (.inl p1)] [] w else (if 12 < p1 then Lm P0 (M0 Ls) d m_Tb_notePast 19 [some (.inr (.inr 95)), some (.inl p1)] [] w else (if 0 ≤ p1 ∧ p1 < 13 then Lm P0 (M0 Ls) d m_Tb_notePast 31 [some (.inr (.inr 95)), some (.inl p1)] [.inl (w32 ((rd w 95 p1) - 1))] w else none)))) := by
  rw [Lm_unf P0 (M0 Ls) sp_142 18]
  rfl
set_option maxRecDepth 100000 in
theorem E_142_19 (Ls d : Nat) (x1 : Int) (w : AW) : Lm P0 (M0 Ls) d m_Tb_notePast 19 [some (.inr (.inr 95)), some (.inl x1)] [] w = Lm P0 (M0 Ls) d m_Tb_notePast 31 [some (.inr (.inr 95)), some (.inl x1)] [.inl (-1)] w := by
  rw [Lm_unf P0 (M0 Ls) sp_142 4]
  rfl
set_option maxRecDepth 100000 in
theorem E_142_31 (Ls d : Nat) (x1 y0 : Int) (w : AW) : Lm P0 (M0 Ls) d m_Tb_notePast 31 [some (.inr (.inr 95)), some (.inl x1)] [.inl y0] w = some (some (.inl y0), w) := by
  rw [Lm_unf P0 (M0 Ls) sp_142 2]
  rfl
