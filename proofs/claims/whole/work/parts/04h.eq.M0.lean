def sp_190 : Nat → Bool := fun q => [0].contains q
set_option maxRecDepth 100000 in
theorem E_190_0 (Ls d : Nat) (w : AW) : Lm P0 (M0 Ls) d m_M_thrown 0 [some (.inr (.inr 113))] [] w = some (some (.inl (rd w 112 0)), w) := by
  rw [Lm_unf P0 (M0 Ls) sp_190 4]
  rfl
def sp_191 : Nat → Bool := fun q => [0, 10, 15, 21].contains q
set_option maxRecDepth 100000 in
theorem E_191_0 (Ls d : Nat) (p1 p2 p3 : Int) (w : AW) : Lm P0 (M0 Ls) d m_M_feed 0 [some (.inr (.inr 113)), some (.inr (.inl p1)), none, some (.inr (.inl p2)), none, some (.inr (.inl p3)), none] [] w = Lk P0 (M0 Ls) d m_M_lay [.inr (.inr 113), .inr (.inl p1)] (wC w 112 0 0) (fun r_ w_ => Lm P0 (M0 Ls) d m_M_feed 10 [some (.inr (.inr 113)), some (.inr (.inl p1)), none, some (.inr (.inl p2)), none, some (.inr (.inl p3)), none] (r_.toList ++ []) w_) := by
  rw [Lm_unf P0 (M0 Ls) sp_191 7]
  rfl
set_option maxRecDepth 100000 in
theorem E_191_10 (Ls d : Nat) (x1 x3 x5 : Int) (w : AW) : Lm P0 (M0 Ls) d m_M_feed 10 [some (.inr (.inr 113)), some (.inr (.inl x1)), none, some (.inr (.inl x3)), none, some (.inr (.inl x5)), none] [] w = Lk P0 (M0 Ls) d m_M_lay [.inr (.inr 113), .inr (.inl x3)] w (fun r_ w_ => Lm P0 (M0 Ls) d m_M_feed 15 [some (.inr (.inr 113)), some (.inr (.inl x1)), none, some (.inr (.inl x3)), none, some (.inr (.inl x5)), none] (r_.toList ++ []) w_) := by
  rw [Lm_unf P0 (M0 Ls) sp_191 4]
  rfl
set_option maxRecDepth 100000 in
theorem E_191_15 (Ls d : Nat) (x1 x3 x5 : Int) (w : AW) : Lm P0 (M0 Ls) d m_M_feed 15 [some (.inr (.inr 113)), some (.inr (.inl x1)), none, some (.inr (.inl x3)), none, some (.inr (.inl x5)), none] [] w = Lk P0 (M0 Ls) d m_M_lay [.inr (.inr 113), .inr (.inl x5)] w (fun r_ w_ => Lm P0 (M0 Ls) d m_M_feed 21 [some (.inr (.inr 113)), some (.inr (.inl x1)), none, some (.inr (.inl x3)), none, some (.inr (.inl x5)), none] (r_.toList ++ []) w_) := by
  rw [Lm_unf P0 (M0 Ls) sp_191 4]
  rfl
set_option maxRecDepth 100000 in
theorem E_191_21 (Ls d : Nat) (x1 x3 x5 : Int) (w : AW) : Lm P0 (M0 Ls) d m_M_feed 21 [some (.inr (.inr 113)), some (.inr (.inl x1)), none, some (.inr (.inl x3)), none, some (.inr (.inl x5)), none] [] w = some (some (.inl (rd w 112 2)), w) := by
  rw [Lm_unf P0 (M0 Ls) sp_191 4]
  rfl
def sp_192 : Nat → Bool := fun q => [0, 3, 38, 69].contains q
set_option maxRecDepth 100000 in
theorem E_192_0 (Ls d : Nat) (p1 : Int) (w : AW) : Lm P0 (M0 Ls) d m_M_lay 0 [some (.inr (.inr 113)), some (.inr (.inl p1)), none, none, none] [] w = Lm P0 (M0 Ls) d m_M_lay 3 [some (.inr (.inr 113)), some (.inr (.inl p1)), none, some (.inl 56), none] [] w := by
  rw [Lm_unf P0 (M0 Ls) sp_192 4]
  rfl
set_option maxRecDepth 100000 in
theorem E_192_3 (Ls d : Nat) (x1 x3 : Int) (u4 : Option AV) (w : AW) : Lm P0 (M0 Ls) d m_M_lay 3 [some (.inr (.inr 113)), some (.inr (.inl x1)), none, some (.inl x3), u4] [] w = (if x3 < 0 then some (none, w) else (if (i32 (fun x y => x &&& y) (w32 ((Int64.ofInt x1 >>> ((Int32.ofInt x3).toInt64 &&& 63)).toInt)) 255) = 10 then Lm P0 (M0 Ls) d m_M_lay 38 [some (.inr (.inr 113)), some (.inr (.inl x1)), none, some (.inl x3), some (.inl (i32 (fun x y => x &&& y) (w32 ((Int64.ofInt x1 >>> ((Int32.ofInt x3).toInt64 &&& 63)).toInt)) 255))] [] w else (if (i32 (fun x y => x &&& y) (w32 ((Int64.ofInt x1 >>> ((Int32.ofInt x3).toInt64 &&& 63)).toInt)) 255) < 32 then Lm P0 (M0 Ls) d m_M_lay 69 [some (.inr (.inr 113)), some (.inr (.inl x1)), none, some (.inl x3), some (.inl (i32 (fun x y => x &&& y) (w32 ((Int64.ofInt x1 >>> ((Int32.ofInt x3).toInt64 &&& 63)).toInt)) 255))] [] w else (if 126 < (i32 (fun x y => x &&& y) (w32 ((Int64.ofInt x1 >>> ((Int32.ofInt x3).toInt64 &&& 63)).toInt)) 255) then Lm P0 (M0 Ls) d m_M_lay 69 [some (.inr (.inr 113)), some (.inr (.inl x1)), none, some (.inl x3), some (.inl (i32 (fun x y => x &&& y) (w32 ((Int64.ofInt x1 >>> ((Int32.ofInt x3).toInt64 &&& 63)).toInt)) 255))] [] w else Lm P0 (M0 Ls) d m_M_lay 38 [some (.inr (.inr 113)), some (.inr (.inl x1)), none, some (.inl x3), some (.inl (i32 (fun x y => x &&& y) (w32 ((Int64.ofInt x1 >>> ((Int32.ofInt x3).toInt64 &&& 63)).toInt)) 255))] [] w)))) := by
  rw [Lm_unf P0 (M0 Ls) sp_192 20]
  rfl
set_option maxRecDepth 100000 in
theorem E_192_38 (Ls d : Nat) (x1 x3 x4 : Int) (w : AW) : Lm P0 (M0 Ls) d m_M_lay 38 [some (.inr (.inr 113)), some (.inr (.inl x1)), none, some (.inl x3), some (.inl x4)] [] w = (if (rd w 112 2) < 1000 then (if 0 ≤ (rd w 112 2) ∧ (rd w 112 2) < 1000 then Lm P0 (M0 Ls) d m_M_lay 69 [some (.inr (.inr 113)), some (.inr (.inl x1)), none, some (.inl x3), some (.inl x4)] [] (wC (wC w 113 (rd w 112 2) x4) 112 2 (w32 ((rd (wC w 113 (rd w 112 2) x4) 112 2) + 1))) else none) else Lm P0 (M0 Ls) d m_M_lay 69 [some (.inr (.inr 113)), some (.inr (.inl x1)), none, some (.inl x3), some (.inl x4)] [] w) := by
  rw [Lm_unf P0 (M0 Ls) sp_192 18]
  rfl
set_option maxRecDepth 100000 in
theorem E_192_69 (Ls d : Nat) (x1 x3 x4 : Int) (w : AW) : Lm P0 (M0 Ls) d m_M_lay 69 [some (.inr (.inr 113)), some (.inr (.inl x1)), none, some (.inl x3), some (.inl x4)] [] w = Lm P0 (M0 Ls) d m_M_lay 3 [some (.inr (.inr 113)), some (.inr (.inl x1)), none, some (.inl (w32 (x3 + (-8)))), some (.inl x4)] [] w := by
  rw [Lm_unf P0 (M0 Ls) sp_192 4]
  rfl
def sp_194 : Nat → Bool := fun q => [0, 16, 17].contains q
set_option maxRecDepth 100000 in
theorem E_194_0 (Ls d : Nat) (p1 : Int) (w : AW) : Lm P0 (M0 Ls) d m_M_isLetter 0 [some (.inl p1)] [] w = (if p1 < 97 then Lm P0 (M0 Ls) d m_M_isLetter 16 [some (.inl p1)] [] w else (if 122 < p1 then Lm P0 (M0 Ls) d m_M_isLetter 16 [some (.inl p1)] [] w else Lm P0 (M0 Ls) d m_M_isLetter 17 [some (.inl p1)] [.inl 1] w)) := by
  rw [Lm_unf P0 (M0 Ls) sp_194 10]
  rfl
set_option maxRecDepth 100000 in
theorem E_194_16 (Ls d : Nat) (x0 : Int) (w : AW) : Lm P0 (M0 Ls) d m_M_isLetter 16 [some (.inl x0)] [] w = Lm P0 (M0 Ls) d m_M_isLetter 17 [some (.inl x0)] [.inl 0] w := by
  rw [Lm_unf P0 (M0 Ls) sp_194 3]
  rfl
set_option maxRecDepth 100000 in
theorem E_194_17 (Ls d : Nat) (x0 y0 : Int) (w : AW) : Lm P0 (M0 Ls) d m_M_isLetter 17 [some (.inl x0)] [.inl y0] w = (if rok 3 y0 = true then some (some (.inl y0), w) else none) := by
  rw [Lm_unf P0 (M0 Ls) sp_194 2]
  rfl
def sp_195 : Nat → Bool := fun q => [0, 16, 17].contains q
set_option maxRecDepth 100000 in
theorem E_195_0 (Ls d : Nat) (p1 : Int) (w : AW) : Lm P0 (M0 Ls) d m_M_isDigit 0 [some (.inl p1)] [] w = (if p1 < 48 then Lm P0 (M0 Ls) d m_M_isDigit 16 [some (.inl p1)] [] w else (if 57 < p1 then Lm P0 (M0 Ls) d m_M_isDigit 16 [some (.inl p1)] [] w else Lm P0 (M0 Ls) d m_M_isDigit 17 [some (.inl p1)] [.inl 1] w)) := by
  rw [Lm_unf P0 (M0 Ls) sp_195 10]
  rfl
set_option maxRecDepth 100000 in
theorem E_195_16 (Ls d : Nat) (x0 : Int) (w : AW) : Lm P0 (M0 Ls) d m_M_isDigit 16 [some (.inl x0)] [] w = Lm P0 (M0 Ls) d m_M_isDigit 17 [some (.inl x0)] [.inl 0] w := by
  rw [Lm_unf P0 (M0 Ls) sp_195 3]
  rfl
set_option maxRecDepth 100000 in
theorem E_195_17 (Ls d : Nat) (x0 y0 : Int) (w : AW) : Lm P0 (M0 Ls) d m_M_isDigit 17 [some (.inl x0)] [.inl y0] w = (if rok 3 y0 = true then some (some (.inl y0), w) else none) := by
  rw [Lm_unf P0 (M0 Ls) sp_195 2]
  rfl
def sp_196 : Nat → Bool := fun q => [0, 4, 18].contains q
set_option maxRecDepth 100000 in
theorem E_196_0 (Ls d : Nat) (p1 : Int) (w : AW) : Lm P0 (M0 Ls) d m_M_rank 0 [some (.inl p1)] [] w = Lk P0 (M0 Ls) d m_M_isLetter [.inl p1] w (fun r_ w_ => Lm P0 (M0 Ls) d m_M_rank 4 [some (.inl p1)] (r_.toList ++ []) w_) := by
  rw [Lm_unf P0 (M0 Ls) sp_196 3]
  rfl
set_option maxRecDepth 100000 in
theorem E_196_4 (Ls d : Nat) (x0 y0 : Int) (w : AW) : Lm P0 (M0 Ls) d m_M_rank 4 [some (.inl x0)] [.inl y0] w = (if y0 = 0 then Lm P0 (M0 Ls) d m_M_rank 18 [some (.inl x0)] [.inl (w32 (x0 - 21))] w else Lm P0 (M0 Ls) d m_M_rank 18 [some (.inl x0)] [.inl (w32 (x0 - 96))] w) := by
  rw [Lm_unf P0 (M0 Ls) sp_196 7]
  rfl
set_option maxRecDepth 100000 in
theorem E_196_18 (Ls d : Nat) (x0 y0 : Int) (w : AW) : Lm P0 (M0 Ls) d m_M_rank 18 [some (.inl x0)] [.inl y0] w = some (some (.inl y0), w) := by
  rw [Lm_unf P0 (M0 Ls) sp_196 2]
  rfl
def sp_197 : Nat → Bool := fun q => [0, 48, 53].contains q
set_option maxRecDepth 100000 in
theorem E_197_0 (Ls d : Nat) (p1 : Int) (w : AW) : Lm P0 (M0 Ls) d m_M_isSignOf 0 [some (.inl p1)] [] w = (if p1 = 40 then Lm P0 (M0 Ls) d m_M_isSignOf 48 [some (.inl p1)] [] w else (if p1 = 41 then Lm P0 (M0 Ls) d m_M_isSignOf 48 [some (.inl p1)] [] w else (if p1 = 59 then Lm P0 (M0 Ls) d m_M_isSignOf 48 [some (.inl p1)] [] w else (if p1 = 61 then Lm P0 (M0 Ls) d m_M_isSignOf 48 [some (.inl p1)] [] w else (if p1 = 60 then Lm P0 (M0 Ls) d m_M_isSignOf 48 [some (.inl p1)] [] w else (if p1 = 43 then Lm P0 (M0 Ls) d m_M_isSignOf 48 [some (.inl p1)] [] w else (if p1 = 45 then Lm P0 (M0 Ls) d m_M_isSignOf 48 [some (.inl p1)] [] w else (if p1 = 42 then Lm P0 (M0 Ls) d m_M_isSignOf 48 [some (.inl p1)] [] w else Lm P0 (M0 Ls) d m_M_isSignOf 53 [some (.inl p1)] [.inl 0] w)))))))) := by
  rw [Lm_unf P0 (M0 Ls) sp_197 27]
  rfl
set_option maxRecDepth 100000 in
theorem E_197_48 (Ls d : Nat) (x0 : Int) (w : AW) : Lm P0 (M0 Ls) d m_M_isSignOf 48 [some (.inl x0)] [] w = Lm P0 (M0 Ls) d m_M_isSignOf 53 [some (.inl x0)] [.inl 1] w := by
  rw [Lm_unf P0 (M0 Ls) sp_197 4]
  rfl
set_option maxRecDepth 100000 in
theorem E_197_53 (Ls d : Nat) (x0 y0 : Int) (w : AW) : Lm P0 (M0 Ls) d m_M_isSignOf 53 [some (.inl x0)] [.inl y0] w = (if rok 3 y0 = true then some (some (.inl y0), w) else none) := by
  rw [Lm_unf P0 (M0 Ls) sp_197 2]
  rfl
def sp_198 : Nat → Bool := fun q => [0, 17, 44, 67, 70, 87, 114, 121, 129, 148, 156, 159, 176, 210, 218, 236, 253, 261, 265].contains q
set_option maxRecDepth 100000 in
theorem E_198_0 (Ls d : Nat) (w : AW) : Lm P0 (M0 Ls) d m_M_cutAll 0 [some (.inr (.inr 113)), none, none, none, none, none, none] [] w = Lm P0 (M0 Ls) d m_M_cutAll 17 [some (.inr (.inr 113)), some (.inl 0), some (.inl 0), none, none, none, none] [] (wC (wC w 112 3 (rd w 112 2)) 112 2 0) := by
  rw [Lm_unf P0 (M0 Ls) sp_198 13]
  rfl
set_option maxRecDepth 100000 in
theorem E_198_17 (Ls d : Nat) (x1 x2 : Int) (u3 u4 u5 : Option AV) (w : AW) : Lm P0 (M0 Ls) d m_M_cutAll 17 [some (.inr (.inr 113)), some (.inl x1), some (.inl x2), u3, u4, u5, none] [] w = (if x2 < (rd w 112 3) then (if 0 ≤ x2 ∧ x2 < 1000 then (if (rd w 113 x2) = 10 then Lm P0 (M0 Ls) d m_M_cutAll 44 [some (.inr (.inr 113)), some (.inl x1), some (.inl x2), some (.inl (rd w 113 x2)), u4, u5, none] [] w else (if (rd w 113 x2) = 32 then Lm P0 (M0 Ls) d m_M_cutAll 44 [some (.inr (.inr 113)), some (.inl x1), some (.inl x2), some (.inl (rd w 113 x2)), u4, u5, none] [] w else (if 0 ≤ x1 ∧ x1 < 1002 then Lk P0 (M0 Ls) d m_M_isLetter [.inl (rd w 113 x2)] (wC w 115 x1 x2) (fun r_ w_ => Lm P0 (M0 Ls) d m_M_cutAll 67 [some (.inr (.inr 113)), some (.inl x1), some (.inl x2), some (.inl (rd w 113 x2)), some (.inl x2), some (.inr (.inl 0)), none] (r_.toList ++ []) w_) else none))) else none) else (if 0 ≤ x1 ∧ x1 < 1002 then (if 0 ≤ x1 ∧ x1 < 1002 then some (none, wC (wC (wC (wC w 114 x1 0) 115 x1 (rd (wC w 114 x1 0) 112 3)) 112 7 0) 112 8 0) else none) else none)) := by
  rw [Lm_unf P0 (M0 Ls) sp_198 27]
  rfl
set_option maxRecDepth 100000 in
theorem E_198_44 (Ls d : Nat) (x1 x2 x3 : Int) (u4 u5 : Option AV) (w : AW) : Lm P0 (M0 Ls) d m_M_cutAll 44 [some (.inr (.inr 113)), some (.inl x1), some (.inl x2), some (.inl x3), u4, u5, none] [] w = Lm P0 (M0 Ls) d m_M_cutAll 17 [some (.inr (.inr 113)), some (.inl x1), some (.inl (w32 (x2 + 1))), some (.inl x3), u4, u5, none] [] w := by
  rw [Lm_unf P0 (M0 Ls) sp_198 4]
  rfl
set_option maxRecDepth 100000 in
theorem E_198_67 (Ls d : Nat) (x1 x2 x3 x4 x5 y0 : Int) (w : AW) : Lm P0 (M0 Ls) d m_M_cutAll 67 [some (.inr (.inr 113)), some (.inl x1), some (.inl x2), some (.inl x3), some (.inl x4), some (.inr (.inl x5)), none] [.inl y0] w = (if y0 = 0 then Lk P0 (M0 Ls) d m_M_isDigit [.inl x3] w (fun r_ w_ => Lm P0 (M0 Ls) d m_M_cutAll 156 [some (.inr (.inr 113)), some (.inl x1), some (.inl x2), some (.inl x3), some (.inl x4), some (.inr (.inl x5)), none] (r_.toList ++ []) w_) else Lm P0 (M0 Ls) d m_M_cutAll 70 [some (.inr (.inr 113)), some (.inl x1), some (.inl x2), some (.inl x3), some (.inl x4), some (.inr (.inl x5)), none] [] w) := by
  rw [Lm_unf P0 (M0 Ls) sp_198 4]
  rfl
set_option maxRecDepth 100000 in
theorem E_198_70 (Ls d : Nat) (x1 x2 x3 x4 x5 : Int) (w : AW) : Lm P0 (M0 Ls) d m_M_cutAll 70 [some (.inr (.inr 113)), some (.inl x1), some (.inl x2), some (.inl x3), some (.inl x4), some (.inr (.inl x5)), none] [] w = (if x2 < (rd w 112 3) then (if 0 ≤ x2 ∧ x2 < 1000 then Lk P0 (M0 Ls) d m_M_isLetter [.inl (rd w 113 x2)] w (fun r_ w_ => Lm P0 (M0 Ls) d m_M_cutAll 87 [some (.inr (.inr 113)), some (.inl x1), some (.inl x2), some (.inl x3), some (.inl x4), some (.inr (.inl x5)), none] (r_.toList ++ []) w_) else none) else Lm P0 (M0 Ls) d m_M_cutAll 129 [some (.inr (.inr 113)), some (.inl x1), some (.inl x2), some (.inl x3), some (.inl x4), some (.inr (.inl x5)), none] [] w) := by
  rw [Lm_unf P0 (M0 Ls) sp_198 10]
  rfl
set_option maxRecDepth 100000 in
theorem E_198_87 (Ls d : Nat) (x1 x2 x3 x4 x5 y0 : Int) (w : AW) : Lm P0 (M0 Ls) d m_M_cutAll 87 [some (.inr (.inr 113)), some (.inl x1), some (.inl x2), some (.inl x3), some (.inl x4), some (.inr (.inl x5)), none] [.inl y0] w = (if y0 = 0 then Lm P0 (M0 Ls) d m_M_cutAll 129 [some (.inr (.inr 113)), some (.inl x1), some (.inl x2), some (.inl x3), some (.inl x4), some (.inr (.inl x5)), none] [] w else (if (w32 (x2 - x4)) < 8 then (if 0 ≤ x2 ∧ x2 < 1000 then Lk P0 (M0 Ls) d m_M_rank [.inl (rd w 113 x2)] w (fun r_ w_ => Lm P0 (M0 Ls) d m_M_cutAll 114 [some (.inr (.inr 113)), some (.inl x1), some (.inl x2), some (.inl x3), some (.inl x4), some (.inr (.inl x5)), none] (r_.toList ++ [.inr (.inl (w64 (37 * x5)))]) w_) else none) else Lm P0 (M0 Ls) d m_M_cutAll 121 [some (.inr (.inr 113)), some (.inl x1), some (.inl x2), some (.inl x3), some (.inl x4), some (.inr (.inl x5)), none] [.inr (.inl x5)] w)) := by
  rw [Lm_unf P0 (M0 Ls) sp_198 15]
  rfl
set_option maxRecDepth 100000 in
theorem E_198_114 (Ls d : Nat) (x1 x2 x3 x4 x5 y0 y1 : Int) (w : AW) : Lm P0 (M0 Ls) d m_M_cutAll 114 [some (.inr (.inr 113)), some (.inl x1), some (.inl x2), some (.inl x3), some (.inl x4), some (.inr (.inl x5)), none] [.inl y0, .inr (.inl y1)] w = Lm P0 (M0 Ls) d m_M_cutAll 121 [some (.inr (.inr 113)), some (.inl x1), some (.inl x2), some (.inl x3), some (.inl x4), some (.inr (.inl x5)), none] [.inr (.inl (w64 (y1 + y0)))] w := by
  rw [Lm_unf P0 (M0 Ls) sp_198 5]
  rfl
set_option maxRecDepth 100000 in
theorem E_198_121 (Ls d : Nat) (x1 x2 x3 x4 x5 y0 : Int) (w : AW) : Lm P0 (M0 Ls) d m_M_cutAll 121 [some (.inr (.inr 113)), some (.inl x1), some (.inl x2), some (.inl x3), some (.inl x4), some (.inr (.inl x5)), none] [.inr (.inl y0)] w = Lm P0 (M0 Ls) d m_M_cutAll 70 [some (.inr (.inr 113)), some (.inl x1), some (.inl (w32 (x2 + 1))), some (.inl x3), some (.inl x4), some (.inr (.inl y0)), none] [] w := by
  rw [Lm_unf P0 (M0 Ls) sp_198 5]
  rfl
set_option maxRecDepth 100000 in
theorem E_198_129 (Ls d : Nat) (x1 x2 x3 x4 x5 : Int) (w : AW) : Lm P0 (M0 Ls) d m_M_cutAll 129 [some (.inr (.inr 113)), some (.inl x1), some (.inl x2), some (.inl x3), some (.inl x4), some (.inr (.inl x5)), none] [] w = (if 8 < (w32 (x2 - x4)) then Lm P0 (M0 Ls) d m_M_cutAll 148 [some (.inr (.inr 113)), some (.inl x1), some (.inl x2), some (.inl x3), some (.inl x4), some (.inr (.inl x5)), none] [.inl 4, .inl x1, .inr (.inr 115)] w else Lm P0 (M0 Ls) d m_M_cutAll 148 [some (.inr (.inr 113)), some (.inl x1), some (.inl x2), some (.inl x3), some (.inl x4), some (.inr (.inl x5)), none] [.inl 1, .inl x1, .inr (.inr 115)] w) := by
  rw [Lm_unf P0 (M0 Ls) sp_198 12]
  rfl
set_option maxRecDepth 100000 in
theorem E_198_148 (Ls d : Nat) (x1 x2 x3 x4 x5 y0 y1 : Int) (w : AW) : Lm P0 (M0 Ls) d m_M_cutAll 148 [some (.inr (.inr 113)), some (.inl x1), some (.inl x2), some (.inl x3), some (.inl x4), some (.inr (.inl x5)), none] [.inl y0, .inl y1, .inr (.inr 115)] w = (if 0 ≤ y1 ∧ y1 < 1002 then Lm P0 (M0 Ls) d m_M_cutAll 265 [some (.inr (.inr 113)), some (.inl x1), some (.inl x2), some (.inl x3), some (.inl x4), some (.inr (.inl x5)), none] [] (wC w 114 y1 y0) else none) := by
  rw [Lm_unf P0 (M0 Ls) sp_198 4]
  rfl
set_option maxRecDepth 100000 in
theorem E_198_156 (Ls d : Nat) (x1 x2 x3 x4 x5 y0 : Int) (w : AW) : Lm P0 (M0 Ls) d m_M_cutAll 156 [some (.inr (.inr 113)), some (.inl x1), some (.inl x2), some (.inl x3), some (.inl x4), some (.inr (.inl x5)), none] [.inl y0] w = (if y0 = 0 then Lk P0 (M0 Ls) d m_M_isSignOf [.inl x3] w (fun r_ w_ => Lm P0 (M0 Ls) d m_M_cutAll 253 [some (.inr (.inr 113)), some (.inl x1), some (.inl x2), some (.inl x3), some (.inl x4), some (.inr (.inl x3)), none] (r_.toList ++ [.inl x1, .inr (.inr 115)]) w_) else Lm P0 (M0 Ls) d m_M_cutAll 159 [some (.inr (.inr 113)), some (.inl x1), some (.inl x2), some (.inl x3), some (.inl x4), some (.inr (.inl x5)), none] [] w) := by
  rw [Lm_unf P0 (M0 Ls) sp_198 10]
  rfl
set_option maxRecDepth 100000 in
theorem E_198_159 (Ls d : Nat) (x1 x2 x3 x4 x5 : Int) (w : AW) : Lm P0 (M0 Ls) d m_M_cutAll 159 [some (.inr (.inr 113)), some (.inl x1), some (.inl x2), some (.inl x3), some (.inl x4), some (.inr (.inl x5)), none] [] w = (if x2 < (rd w 112 3) then (if 0 ≤ x2 ∧ x2 < 1000 then Lk P0 (M0 Ls) d m_M_isDigit [.inl (rd w 113 x2)] w (fun r_ w_ => Lm P0 (M0 Ls) d m_M_cutAll 176 [some (.inr (.inr 113)), some (.inl x1), some (.inl x2), some (.inl x3), some (.inl x4), some (.inr (.inl x5)), none] (r_.toList ++ []) w_) else none) else Lm P0 (M0 Ls) d m_M_cutAll 218 [some (.inr (.inr 113)), some (.inl x1), some (.inl x2), some (.inl x3), some (.inl x4), some (.inr (.inl x5)), none] [] w) := by
  rw [Lm_unf P0 (M0 Ls) sp_198 10]
  rfl
set_option maxRecDepth 100000 in
theorem E_198_176 (Ls d : Nat) (x1 x2 x3 x4 x5 y0 : Int) (w : AW) : Lm P0 (M0 Ls) d m_M_cutAll 176 [some (.inr (.inr 113)), some (.inl x1), some (.inl x2), some (.inl x3), some (.inl x4), some (.inr (.inl x5)), none] [.inl y0] w = (if y0 = 0 then Lm P0 (M0 Ls) d m_M_cutAll 218 [some (.inr (.inr 113)), some (.inl x1), some (.inl x2), some (.inl x3), some (.inl x4), some (.inr (.inl x5)), none] [] w else (if (w32 (x2 - x4)) < 4 then (if 0 ≤ x2 ∧ x2 < 1000 then Lm P0 (M0 Ls) d m_M_cutAll 210 [some (.inr (.inr 113)), some (.inl x1), some (.inl x2), some (.inl x3), some (.inl x4), some (.inr (.inl x5)), none] [.inr (.inl (w64 ((w64 ((w64 (10 * x5)) + (rd w 113 x2))) - 48)))] w else none) else Lm P0 (M0 Ls) d m_M_cutAll 210 [some (.inr (.inr 113)), some (.inl x1), some (.inl x2), some (.inl x3), some (.inl x4), some (.inr (.inl x5)), none] [.inr (.inl x5)] w)) := by
  rw [Lm_unf P0 (M0 Ls) sp_198 20]
  rfl
set_option maxRecDepth 100000 in
theorem E_198_210 (Ls d : Nat) (x1 x2 x3 x4 x5 y0 : Int) (w : AW) : Lm P0 (M0 Ls) d m_M_cutAll 210 [some (.inr (.inr 113)), some (.inl x1), some (.inl x2), some (.inl x3), some (.inl x4), some (.inr (.inl x5)), none] [.inr (.inl y0)] w = Lm P0 (M0 Ls) d m_M_cutAll 159 [some (.inr (.inr 113)), some (.inl x1), some (.inl (w32 (x2 + 1))), some (.inl x3), some (.inl x4), some (.inr (.inl y0)), none] [] w := by
  rw [Lm_unf P0 (M0 Ls) sp_198 5]
  rfl
set_option maxRecDepth 100000 in
theorem E_198_218 (Ls d : Nat) (x1 x2 x3 x4 x5 : Int) (w : AW) : Lm P0 (M0 Ls) d m_M_cutAll 218 [some (.inr (.inr 113)), some (.inl x1), some (.inl x2), some (.inl x3), some (.inl x4), some (.inr (.inl x5)), none] [] w = (if 4 < (w32 (x2 - x4)) then Lm P0 (M0 Ls) d m_M_cutAll 236 [some (.inr (.inr 113)), some (.inl x1), some (.inl x2), some (.inl x3), some (.inl x4), some (.inr (.inl x5)), none] [.inl 4, .inl x1, .inr (.inr 115)] w else Lm P0 (M0 Ls) d m_M_cutAll 236 [some (.inr (.inr 113)), some (.inl x1), some (.inl x2), some (.inl x3), some (.inl x4), some (.inr (.inl x5)), none] [.inl 2, .inl x1, .inr (.inr 115)] w) := by
  rw [Lm_unf P0 (M0 Ls) sp_198 12]
  rfl
set_option maxRecDepth 100000 in
theorem E_198_236 (Ls d : Nat) (x1 x2 x3 x4 x5 y0 y1 : Int) (w : AW) : Lm P0 (M0 Ls) d m_M_cutAll 236 [some (.inr (.inr 113)), some (.inl x1), some (.inl x2), some (.inl x3), some (.inl x4), some (.inr (.inl x5)), none] [.inl y0, .inl y1, .inr (.inr 115)] w = (if 0 ≤ y1 ∧ y1 < 1002 then Lm P0 (M0 Ls) d m_M_cutAll 265 [some (.inr (.inr 113)), some (.inl x1), some (.inl x2), some (.inl x3), some (.inl x4), some (.inr (.inl x5)), none] [] (wC w 114 y1 y0) else none) := by
  rw [Lm_unf P0 (M0 Ls) sp_198 4]
  rfl
set_option maxRecDepth 100000 in
theorem E_198_253 (Ls d : Nat) (x1 x2 x3 x4 x5 y0 y1 : Int) (w : AW) : Lm P0 (M0 Ls) d m_M_cutAll 253 [some (.inr (.inr 113)), some (.inl x1), some (.inl x2), some (.inl x3), some (.inl x4), some (.inr (.inl x5)), none] [.inl y0, .inl y1, .inr (.inr 115)] w = (if y0 = 0 then Lm P0 (M0 Ls) d m_M_cutAll 261 [some (.inr (.inr 113)), some (.inl x1), some (.inl x2), some (.inl x3), some (.inl x4), some (.inr (.inl x5)), none] [.inl 4, .inl y1, .inr (.inr 115)] w else Lm P0 (M0 Ls) d m_M_cutAll 261 [some (.inr (.inr 113)), some (.inl x1), some (.inl x2), some (.inl x3), some (.inl x4), some (.inr (.inl x5)), none] [.inl 3, .inl y1, .inr (.inr 115)] w) := by
  rw [Lm_unf P0 (M0 Ls) sp_198 5]
  rfl
set_option maxRecDepth 100000 in
theorem E_198_261 (Ls d : Nat) (x1 x2 x3 x4 x5 y0 y1 : Int) (w : AW) : Lm P0 (M0 Ls) d m_M_cutAll 261 [some (.inr (.inr 113)), some (.inl x1), some (.inl x2), some (.inl x3), some (.inl x4), some (.inr (.inl x5)), none] [.inl y0, .inl y1, .inr (.inr 115)] w = (if 0 ≤ y1 ∧ y1 < 1002 then Lm P0 (M0 Ls) d m_M_cutAll 265 [some (.inr (.inr 113)), some (.inl x1), some (.inl (w32 (x2 + 1))), some (.inl x3), some (.inl x4), some (.inr (.inl x5)), none] [] (wC w 114 y1 y0) else none) := by
  rw [Lm_unf P0 (M0 Ls) sp_198 4]
  rfl
set_option maxRecDepth 100000 in
theorem E_198_265 (Ls d : Nat) (x1 x2 x3 x4 x5 : Int) (w : AW) : Lm P0 (M0 Ls) d m_M_cutAll 265 [some (.inr (.inr 113)), some (.inl x1), some (.inl x2), some (.inl x3), some (.inl x4), some (.inr (.inl x5)), none] [] w = (if 0 ≤ x1 ∧ x1 < 1002 then Lm P0 (M0 Ls) d m_M_cutAll 17 [some (.inr (.inr 113)), some (.inl (w32 (x1 + 1))), some (.inl x2), some (.inl x3), some (.inl x4), some (.inr (.inl x5)), none] [] (wC w 116 x1 x5) else none) := by
  rw [Lm_unf P0 (M0 Ls) sp_198 9]
  rfl
def sp_199 : Nat → Bool := fun q => [0, 25].contains q
set_option maxRecDepth 100000 in
theorem E_199_0 (Ls d : Nat) (p1 : Int) (w : AW) : Lm P0 (M0 Ls) d m_M_wrong 0 [some (.inr (.inr 113)), some (.inl p1)] [] w = (if (rd w 112 8) = 0 then (if 0 ≤ (rd w 112 7) ∧ (rd w 112 7) < 1002 then Lm P0 (M0 Ls) d m_M_wrong 25 [some (.inr (.inr 113)), some (.inl p1)] [] (wC w 112 8 (w32 (p1 + (w32 (16 * (rd w 115 (rd w 112 7))))))) else none) else Lm P0 (M0 Ls) d m_M_wrong 25 [some (.inr (.inr 113)), some (.inl p1)] [] w) := by
  rw [Lm_unf P0 (M0 Ls) sp_199 16]
  rfl
set_option maxRecDepth 100000 in
theorem E_199_25 (Ls d : Nat) (x1 : Int) (w : AW) : Lm P0 (M0 Ls) d m_M_wrong 25 [some (.inr (.inr 113)), some (.inl x1)] [] w = some (none, w) := by
  rw [Lm_unf P0 (M0 Ls) sp_199 2]
  rfl
def sp_200 : Nat → Bool := fun q => [0, 39, 40].contains q
set_option maxRecDepth 100000 in
theorem E_200_0 (Ls d : Nat) (p1 : Int) (w : AW) : Lm P0 (M0 Ls) d m_M_isSign 0 [some (.inr (.inr 113)), some (.inl p1)] [] w = (if (rd w 112 8) = 0 then (if 0 ≤ (rd w 112 7) ∧ (rd w 112 7) < 1002 then (if (rd w 114 (rd w 112 7)) = 3 then (if 0 ≤ (rd w 112 7) ∧ (rd w 112 7) < 1002 then (if (if (rd w 116 (rd w 112 7)) < p1 then -1 else if (rd w 116 (rd w 112 7)) = p1 then 0 else 1 : Int) = 0 then Lm P0 (M0 Ls) d m_M_isSign 40 [some (.inr (.inr 113)), some (.inl p1)] [.inl 1] w else Lm P0 (M0 Ls) d m_M_isSign 39 [some (.inr (.inr 113)), some (.inl p1)] [] w) else none) else Lm P0 (M0 Ls) d m_M_isSign 39 [some (.inr (.inr 113)), some (.inl p1)] [] w) else none) else Lm P0 (M0 Ls) d m_M_isSign 39 [some (.inr (.inr 113)), some (.inl p1)] [] w) := by
  rw [Lm_unf P0 (M0 Ls) sp_200 23]
  rfl
set_option maxRecDepth 100000 in
theorem E_200_39 (Ls d : Nat) (x1 : Int) (w : AW) : Lm P0 (M0 Ls) d m_M_isSign 39 [some (.inr (.inr 113)), some (.inl x1)] [] w = Lm P0 (M0 Ls) d m_M_isSign 40 [some (.inr (.inr 113)), some (.inl x1)] [.inl 0] w := by
  rw [Lm_unf P0 (M0 Ls) sp_200 3]
  rfl
set_option maxRecDepth 100000 in
theorem E_200_40 (Ls d : Nat) (x1 y0 : Int) (w : AW) : Lm P0 (M0 Ls) d m_M_isSign 40 [some (.inr (.inr 113)), some (.inl x1)] [.inl y0] w = (if rok 3 y0 = true then some (some (.inl y0), w) else none) := by
  rw [Lm_unf P0 (M0 Ls) sp_200 2]
  rfl
def sp_201 : Nat → Bool := fun q => [0, 43, 44].contains q
set_option maxRecDepth 100000 in
theorem E_201_0 (Ls d : Nat) (p1 : Int) (w : AW) : Lm P0 (M0 Ls) d m_M_isWord 0 [some (.inr (.inr 113)), some (.inl p1)] [] w = (if (rd w 112 8) = 0 then (if 0 ≤ (rd w 112 7) ∧ (rd w 112 7) < 1002 then (if (rd w 114 (rd w 112 7)) = 1 then (if 0 ≤ (rd w 112 7) ∧ (rd w 112 7) < 1002 then (if 0 ≤ p1 ∧ p1 < 23 then (if (if (rd w 116 (rd w 112 7)) < (rd w 117 p1) then -1 else if (rd w 116 (rd w 112 7)) = (rd w 117 p1) then 0 else 1 : Int) = 0 then Lm P0 (M0 Ls) d m_M_isWord 44 [some (.inr (.inr 113)), some (.inl p1)] [.inl 1] w else Lm P0 (M0 Ls) d m_M_isWord 43 [some (.inr (.inr 113)), some (.inl p1)] [] w) else none) else none) else Lm P0 (M0 Ls) d m_M_isWord 43 [some (.inr (.inr 113)), some (.inl p1)] [] w) else none) else Lm P0 (M0 Ls) d m_M_isWord 43 [some (.inr (.inr 113)), some (.inl p1)] [] w) := by
  rw [Lm_unf P0 (M0 Ls) sp_201 25]
  rfl
set_option maxRecDepth 100000 in
theorem E_201_43 (Ls d : Nat) (x1 : Int) (w : AW) : Lm P0 (M0 Ls) d m_M_isWord 43 [some (.inr (.inr 113)), some (.inl x1)] [] w = Lm P0 (M0 Ls) d m_M_isWord 44 [some (.inr (.inr 113)), some (.inl x1)] [.inl 0] w := by
  rw [Lm_unf P0 (M0 Ls) sp_201 3]
  rfl
set_option maxRecDepth 100000 in
theorem E_201_44 (Ls d : Nat) (x1 y0 : Int) (w : AW) : Lm P0 (M0 Ls) d m_M_isWord 44 [some (.inr (.inr 113)), some (.inl x1)] [.inl y0] w = (if rok 3 y0 = true then some (some (.inl y0), w) else none) := by
  rw [Lm_unf P0 (M0 Ls) sp_201 2]
  rfl
def sp_202 : Nat → Bool := fun q => [0, 5, 26].contains q
set_option maxRecDepth 100000 in
theorem E_202_0 (Ls d : Nat) (p1 : Int) (w : AW) : Lm P0 (M0 Ls) d m_M_takeSign 0 [some (.inr (.inr 113)), some (.inl p1)] [] w = Lk P0 (M0 Ls) d m_M_isSign [.inr (.inr 113), .inl p1] w (fun r_ w_ => Lm P0 (M0 Ls) d m_M_takeSign 5 [some (.inr (.inr 113)), some (.inl p1)] (r_.toList ++ []) w_) := by
  rw [Lm_unf P0 (M0 Ls) sp_202 4]
  rfl
set_option maxRecDepth 100000 in
theorem E_202_5 (Ls d : Nat) (x1 y0 : Int) (w : AW) : Lm P0 (M0 Ls) d m_M_takeSign 5 [some (.inr (.inr 113)), some (.inl x1)] [.inl y0] w = (if y0 = 0 then Lk P0 (M0 Ls) d m_M_wrong [.inr (.inr 113), .inl 1] w (fun r_ w_ => Lm P0 (M0 Ls) d m_M_takeSign 26 [some (.inr (.inr 113)), some (.inl x1)] (r_.toList ++ []) w_) else Lm P0 (M0 Ls) d m_M_takeSign 26 [some (.inr (.inr 113)), some (.inl x1)] [] (wC w 112 7 (w32 ((rd w 112 7) + 1)))) := by
  rw [Lm_unf P0 (M0 Ls) sp_202 10]
  rfl
set_option maxRecDepth 100000 in
theorem E_202_26 (Ls d : Nat) (x1 : Int) (w : AW) : Lm P0 (M0 Ls) d m_M_takeSign 26 [some (.inr (.inr 113)), some (.inl x1)] [] w = some (none, w) := by
  rw [Lm_unf P0 (M0 Ls) sp_202 2]
  rfl
def sp_203 : Nat → Bool := fun q => [0, 5, 20].contains q
set_option maxRecDepth 100000 in
theorem E_203_0 (Ls d : Nat) (p1 : Int) (w : AW) : Lm P0 (M0 Ls) d m_M_hasSign 0 [some (.inr (.inr 113)), some (.inl p1), none] [] w = Lk P0 (M0 Ls) d m_M_isSign [.inr (.inr 113), .inl p1] w (fun r_ w_ => Lm P0 (M0 Ls) d m_M_hasSign 5 [some (.inr (.inr 113)), some (.inl p1), none] (r_.toList ++ []) w_) := by
  rw [Lm_unf P0 (M0 Ls) sp_203 4]
  rfl
set_option maxRecDepth 100000 in
theorem E_203_5 (Ls d : Nat) (x1 y0 : Int) (w : AW) : Lm P0 (M0 Ls) d m_M_hasSign 5 [some (.inr (.inr 113)), some (.inl x1), none] [.inl y0] w = (if y0 = 0 then Lm P0 (M0 Ls) d m_M_hasSign 20 [some (.inr (.inr 113)), some (.inl x1), some (.inl y0)] [.inl 0, .inl (rd w 112 7), .inr (.inr 113)] w else Lm P0 (M0 Ls) d m_M_hasSign 20 [some (.inr (.inr 113)), some (.inl x1), some (.inl y0)] [.inl 1, .inl (rd w 112 7), .inr (.inr 113)] w) := by
  rw [Lm_unf P0 (M0 Ls) sp_203 10]
  rfl
set_option maxRecDepth 100000 in
theorem E_203_20 (Ls d : Nat) (x1 x2 y0 y1 : Int) (w : AW) : Lm P0 (M0 Ls) d m_M_hasSign 20 [some (.inr (.inr 113)), some (.inl x1), some (.inl x2)] [.inl y0, .inl y1, .inr (.inr 113)] w = (if rok 3 x2 = true then some (some (.inl x2), wC w 112 7 (w32 (y1 + y0))) else none) := by
  rw [Lm_unf P0 (M0 Ls) sp_203 5]
  rfl
def sp_204 : Nat → Bool := fun q => [0, 5, 20].contains q
set_option maxRecDepth 100000 in
theorem E_204_0 (Ls d : Nat) (p1 : Int) (w : AW) : Lm P0 (M0 Ls) d m_M_hasWord 0 [some (.inr (.inr 113)), some (.inl p1), none] [] w = Lk P0 (M0 Ls) d m_M_isWord [.inr (.inr 113), .inl p1] w (fun r_ w_ => Lm P0 (M0 Ls) d m_M_hasWord 5 [some (.inr (.inr 113)), some (.inl p1), none] (r_.toList ++ []) w_) := by
  rw [Lm_unf P0 (M0 Ls) sp_204 4]
  rfl
set_option maxRecDepth 100000 in
theorem E_204_5 (Ls d : Nat) (x1 y0 : Int) (w : AW) : Lm P0 (M0 Ls) d m_M_hasWord 5 [some (.inr (.inr 113)), some (.inl x1), none] [.inl y0] w = (if y0 = 0 then Lm P0 (M0 Ls) d m_M_hasWord 20 [some (.inr (.inr 113)), some (.inl x1), some (.inl y0)] [.inl 0, .inl (rd w 112 7), .inr (.inr 113)] w else Lm P0 (M0 Ls) d m_M_hasWord 20 [some (.inr (.inr 113)), some (.inl x1), some (.inl y0)] [.inl 1, .inl (rd w 112 7), .inr (.inr 113)] w) := by
  rw [Lm_unf P0 (M0 Ls) sp_204 10]
  rfl
set_option maxRecDepth 100000 in
theorem E_204_20 (Ls d : Nat) (x1 x2 y0 y1 : Int) (w : AW) : Lm P0 (M0 Ls) d m_M_hasWord 20 [some (.inr (.inr 113)), some (.inl x1), some (.inl x2)] [.inl y0, .inl y1, .inr (.inr 113)] w = (if rok 3 x2 = true then some (some (.inl x2), wC w 112 7 (w32 (y1 + y0))) else none) := by
  rw [Lm_unf P0 (M0 Ls) sp_204 5]
  rfl
def sp_205 : Nat → Bool := fun q => [0, 5, 13].contains q
set_option maxRecDepth 100000 in
theorem E_205_0 (Ls d : Nat) (p1 : Int) (w : AW) : Lm P0 (M0 Ls) d m_M_takeWord 0 [some (.inr (.inr 113)), some (.inl p1)] [] w = Lk P0 (M0 Ls) d m_M_hasWord [.inr (.inr 113), .inl p1] w (fun r_ w_ => Lm P0 (M0 Ls) d m_M_takeWord 5 [some (.inr (.inr 113)), some (.inl p1)] (r_.toList ++ []) w_) := by
  rw [Lm_unf P0 (M0 Ls) sp_205 4]
  rfl
set_option maxRecDepth 100000 in
theorem E_205_5 (Ls d : Nat) (x1 y0 : Int) (w : AW) : Lm P0 (M0 Ls) d m_M_takeWord 5 [some (.inr (.inr 113)), some (.inl x1)] [.inl y0] w = (if y0 = 0 then Lk P0 (M0 Ls) d m_M_wrong [.inr (.inr 113), .inl 1] w (fun r_ w_ => Lm P0 (M0 Ls) d m_M_takeWord 13 [some (.inr (.inr 113)), some (.inl x1)] (r_.toList ++ []) w_) else Lm P0 (M0 Ls) d m_M_takeWord 13 [some (.inr (.inr 113)), some (.inl x1)] [] w) := by
  rw [Lm_unf P0 (M0 Ls) sp_205 5]
  rfl
set_option maxRecDepth 100000 in
theorem E_205_13 (Ls d : Nat) (x1 : Int) (w : AW) : Lm P0 (M0 Ls) d m_M_takeWord 13 [some (.inr (.inr 113)), some (.inl x1)] [] w = some (none, w) := by
  rw [Lm_unf P0 (M0 Ls) sp_205 2]
  rfl
def sp_206 : Nat → Bool := fun q => [0, 14, 15].contains q
set_option maxRecDepth 100000 in
theorem E_206_0 (Ls d : Nat) (p1 p2 p3 : Int) (w : AW) : Lm P0 (M0 Ls) d m_M_within 0 [some (.inl p1), some (.inl p2), some (.inl p3)] [] w = (if p1 < p2 then Lm P0 (M0 Ls) d m_M_within 14 [some (.inl p1), some (.inl p2), some (.inl p3)] [] w else (if p3 < p1 then Lm P0 (M0 Ls) d m_M_within 14 [some (.inl p1), some (.inl p2), some (.inl p3)] [] w else Lm P0 (M0 Ls) d m_M_within 15 [some (.inl p1), some (.inl p2), some (.inl p3)] [.inl 1] w)) := by
  rw [Lm_unf P0 (M0 Ls) sp_206 10]
  rfl
set_option maxRecDepth 100000 in
theorem E_206_14 (Ls d : Nat) (x0 x1 x2 : Int) (w : AW) : Lm P0 (M0 Ls) d m_M_within 14 [some (.inl x0), some (.inl x1), some (.inl x2)] [] w = Lm P0 (M0 Ls) d m_M_within 15 [some (.inl x0), some (.inl x1), some (.inl x2)] [.inl 0] w := by
  rw [Lm_unf P0 (M0 Ls) sp_206 3]
  rfl
set_option maxRecDepth 100000 in
theorem E_206_15 (Ls d : Nat) (x0 x1 x2 y0 : Int) (w : AW) : Lm P0 (M0 Ls) d m_M_within 15 [some (.inl x0), some (.inl x1), some (.inl x2)] [.inl y0] w = (if rok 3 y0 = true then some (some (.inl y0), w) else none) := by
  rw [Lm_unf P0 (M0 Ls) sp_206 2]
  rfl
def sp_207 : Nat → Bool := fun q => [0, 25, 28, 65, 70].contains q
set_option maxRecDepth 100000 in
theorem E_207_0 (Ls d : Nat) (p1 p2 : Int) (w : AW) : Lm P0 (M0 Ls) d m_M_takeNumber 0 [some (.inr (.inr 113)), some (.inl p1), some (.inl p2)] [] w = (if (rd w 112 8) = 0 then (if 0 ≤ (rd w 112 7) ∧ (rd w 112 7) < 1002 then (if (rd w 114 (rd w 112 7)) = 2 then Lm P0 (M0 Ls) d m_M_takeNumber 28 [some (.inr (.inr 113)), some (.inl p1), some (.inl p2)] [] w else Lk P0 (M0 Ls) d m_M_wrong [.inr (.inr 113), .inl 1] w (fun r_ w_ => Lm P0 (M0 Ls) d m_M_takeNumber 25 [some (.inr (.inr 113)), some (.inl p1), some (.inl p2)] (r_.toList ++ []) w_)) else none) else Lm P0 (M0 Ls) d m_M_takeNumber 28 [some (.inr (.inr 113)), some (.inl p1), some (.inl p2)] [] w) := by
  rw [Lm_unf P0 (M0 Ls) sp_207 14]
  rfl
set_option maxRecDepth 100000 in
theorem E_207_25 (Ls d : Nat) (x1 x2 : Int) (w : AW) : Lm P0 (M0 Ls) d m_M_takeNumber 25 [some (.inr (.inr 113)), some (.inl x1), some (.inl x2)] [] w = Lm P0 (M0 Ls) d m_M_takeNumber 70 [some (.inr (.inr 113)), some (.inl x1), some (.inl x2)] [] w := by
  rw [Lm_unf P0 (M0 Ls) sp_207 3]
  rfl
set_option maxRecDepth 100000 in
theorem E_207_28 (Ls d : Nat) (x1 x2 : Int) (w : AW) : Lm P0 (M0 Ls) d m_M_takeNumber 28 [some (.inr (.inr 113)), some (.inl x1), some (.inl x2)] [] w = (if (rd w 112 8) = 0 then (if 0 ≤ (rd w 112 7) ∧ (rd w 112 7) < 1002 then (if (if (rd w 116 (rd w 112 7)) < x1 then -1 else if (rd w 116 (rd w 112 7)) = x1 then 0 else 1 : Int) < 0 then Lm P0 (M0 Ls) d m_M_takeNumber 65 [some (.inr (.inr 113)), some (.inl x1), some (.inl x2)] [] w else (if 0 ≤ (rd w 112 7) ∧ (rd w 112 7) < 1002 then (if 0 < (if (rd w 116 (rd w 112 7)) < x2 then -1 else if (rd w 116 (rd w 112 7)) = x2 then 0 else 1 : Int) then Lm P0 (M0 Ls) d m_M_takeNumber 65 [some (.inr (.inr 113)), some (.inl x1), some (.inl x2)] [] w else Lm P0 (M0 Ls) d m_M_takeNumber 70 [some (.inr (.inr 113)), some (.inl x1), some (.inl x2)] [] w) else none)) else none) else Lm P0 (M0 Ls) d m_M_takeNumber 70 [some (.inr (.inr 113)), some (.inl x1), some (.inl x2)] [] w) := by
  rw [Lm_unf P0 (M0 Ls) sp_207 23]
  rfl
set_option maxRecDepth 100000 in
theorem E_207_65 (Ls d : Nat) (x1 x2 : Int) (w : AW) : Lm P0 (M0 Ls) d m_M_takeNumber 65 [some (.inr (.inr 113)), some (.inl x1), some (.inl x2)] [] w = Lk P0 (M0 Ls) d m_M_wrong [.inr (.inr 113), .inl 4] w (fun r_ w_ => Lm P0 (M0 Ls) d m_M_takeNumber 70 [some (.inr (.inr 113)), some (.inl x1), some (.inl x2)] (r_.toList ++ []) w_) := by
  rw [Lm_unf P0 (M0 Ls) sp_207 4]
  rfl
set_option maxRecDepth 100000 in
theorem E_207_70 (Ls d : Nat) (x1 x2 : Int) (w : AW) : Lm P0 (M0 Ls) d m_M_takeNumber 70 [some (.inr (.inr 113)), some (.inl x1), some (.inl x2)] [] w = (if 0 < (rd w 112 8) then some (some (.inl 0), w) else (if 0 ≤ (w32 ((rd (wC w 112 7 (w32 ((rd w 112 7) + 1))) 112 7) - 1)) ∧ (w32 ((rd (wC w 112 7 (w32 ((rd w 112 7) + 1))) 112 7) - 1)) < 1002 then some (some (.inl (w32 (rd (wC w 112 7 (w32 ((rd w 112 7) + 1))) 116 (w32 ((rd (wC w 112 7 (w32 ((rd w 112 7) + 1))) 112 7) - 1))))), wC w 112 7 (w32 ((rd w 112 7) + 1))) else none)) := by
  rw [Lm_unf P0 (M0 Ls) sp_207 19]
  rfl
def sp_208 : Nat → Bool := fun q => [0, 9, 16, 69, 92, 98, 101, 119].contains q
set_option maxRecDepth 100000 in
theorem E_208_0 (Ls d : Nat) (w : AW) : Lm P0 (M0 Ls) d m_M_cliff 0 [some (.inr (.inr 113)), none] [] w = Lk P0 (M0 Ls) d m_M_cutAll [.inr (.inr 113)] (wC w 112 0 0) (fun r_ w_ => Lm P0 (M0 Ls) d m_M_cliff 9 [some (.inr (.inr 113)), none] (r_.toList ++ []) w_) := by
  rw [Lm_unf P0 (M0 Ls) sp_208 6]
  rfl
set_option maxRecDepth 100000 in
theorem E_208_9 (Ls d : Nat) (w : AW) : Lm P0 (M0 Ls) d m_M_cliff 9 [some (.inr (.inr 113)), none] [] w = Lm P0 (M0 Ls) d m_M_cliff 16 [some (.inr (.inr 113)), some (.inl 0)] [] (wC w 112 13 0) := by
  rw [Lm_unf P0 (M0 Ls) sp_208 7]
  rfl
set_option maxRecDepth 100000 in
theorem E_208_16 (Ls d : Nat) (x1 : Int) (w : AW) : Lm P0 (M0 Ls) d m_M_cliff 16 [some (.inr (.inr 113)), some (.inl x1)] [] w = (if x1 < 330 then (if 0 ≤ (w32 (330 + x1)) ∧ (w32 (330 + x1)) < 1980 then Lm P0 (M0 Ls) d m_M_cliff 16 [some (.inr (.inr 113)), some (.inl (w32 (x1 + 1)))] [] (wC w 118 (w32 (330 + x1)) 0) else none) else Lm P0 (M0 Ls) d m_M_cliff 69 [some (.inr (.inr 113)), some (.inl x1)] [] (wC (wC (wC (wC w 118 330 7) 118 331 4) 112 14 0) 112 15 0)) := by
  rw [Lm_unf P0 (M0 Ls) sp_208 21]
  rfl
set_option maxRecDepth 100000 in
theorem E_208_69 (Ls d : Nat) (x1 : Int) (w : AW) : Lm P0 (M0 Ls) d m_M_cliff 69 [some (.inr (.inr 113)), some (.inl x1)] [] w = (if (rd w 112 8) = 0 then (if 0 ≤ (rd w 112 7) ∧ (rd w 112 7) < 1002 then (if (rd w 114 (rd w 112 7)) = 0 then Lm P0 (M0 Ls) d m_M_cliff 101 [some (.inr (.inr 113)), some (.inl x1)] [] w else Lk P0 (M0 Ls) d m_M_readLine [.inr (.inr 113)] w (fun r_ w_ => Lm P0 (M0 Ls) d m_M_cliff 92 [some (.inr (.inr 113)), some (.inl x1)] (r_.toList ++ []) w_)) else none) else Lm P0 (M0 Ls) d m_M_cliff 101 [some (.inr (.inr 113)), some (.inl x1)] [] w) := by
  rw [Lm_unf P0 (M0 Ls) sp_208 12]
  rfl
set_option maxRecDepth 100000 in
theorem E_208_92 (Ls d : Nat) (x1 : Int) (w : AW) : Lm P0 (M0 Ls) d m_M_cliff 92 [some (.inr (.inr 113)), some (.inl x1)] [] w = Lk P0 (M0 Ls) d m_M_takeSign [.inr (.inr 113), .inl 59] w (fun r_ w_ => Lm P0 (M0 Ls) d m_M_cliff 98 [some (.inr (.inr 113)), some (.inl x1)] (r_.toList ++ []) w_) := by
  rw [Lm_unf P0 (M0 Ls) sp_208 4]
  rfl
set_option maxRecDepth 100000 in
theorem E_208_98 (Ls d : Nat) (x1 : Int) (w : AW) : Lm P0 (M0 Ls) d m_M_cliff 98 [some (.inr (.inr 113)), some (.inl x1)] [] w = Lm P0 (M0 Ls) d m_M_cliff 69 [some (.inr (.inr 113)), some (.inl x1)] [] w := by
  rw [Lm_unf P0 (M0 Ls) sp_208 3]
  rfl
set_option maxRecDepth 100000 in
theorem E_208_101 (Ls d : Nat) (x1 : Int) (w : AW) : Lm P0 (M0 Ls) d m_M_cliff 101 [some (.inr (.inr 113)), some (.inl x1)] [] w = (if 0 < (rd w 112 8) then some (some (.inl (rd w 112 8)), w) else Lk P0 (M0 Ls) d m_M_carry [.inr (.inr 113), .inl 1, .inl 0] w (fun r_ w_ => Lm P0 (M0 Ls) d m_M_cliff 119 [some (.inr (.inr 113)), some (.inl x1)] (r_.toList ++ []) w_)) := by
  rw [Lm_unf P0 (M0 Ls) sp_208 8]
  rfl
set_option maxRecDepth 100000 in
theorem E_208_119 (Ls d : Nat) (x1 : Int) (w : AW) : Lm P0 (M0 Ls) d m_M_cliff 119 [some (.inr (.inr 113)), some (.inl x1)] [] w = some (some (.inl 0), wC w 112 16 1) := by
  rw [Lm_unf P0 (M0 Ls) sp_208 6]
  rfl
def sp_209 : Nat → Bool := fun q => [0, 2, 41].contains q
set_option maxRecDepth 100000 in
theorem E_209_0 (Ls d : Nat) (p1 p2 : Int) (w : AW) : Lm P0 (M0 Ls) d m_M_carry 0 [some (.inr (.inr 113)), some (.inl p1), some (.inl p2), none] [] w = Lm P0 (M0 Ls) d m_M_carry 2 [some (.inr (.inr 113)), some (.inl p1), some (.inl p2), some (.inl 0)] [] w := by
  rw [Lm_unf P0 (M0 Ls) sp_209 4]
  rfl
set_option maxRecDepth 100000 in
theorem E_209_2 (Ls d : Nat) (x1 x2 x3 : Int) (w : AW) : Lm P0 (M0 Ls) d m_M_carry 2 [some (.inr (.inr 113)), some (.inl x1), some (.inl x2), some (.inl x3)] [] w = (if x3 < 330 then (if 0 ≤ (w32 ((w32 (330 * x1)) + x3)) ∧ (w32 ((w32 (330 * x1)) + x3)) < 1980 then (if 0 ≤ (w32 ((w32 (330 * x2)) + x3)) ∧ (w32 ((w32 (330 * x2)) + x3)) < 1980 then Lm P0 (M0 Ls) d m_M_carry 2 [some (.inr (.inr 113)), some (.inl x1), some (.inl x2), some (.inl (w32 (x3 + 1)))] [] (wC w 118 (w32 ((w32 (330 * x2)) + x3)) (rd w 118 (w32 ((w32 (330 * x1)) + x3)))) else none) else none) else Lm P0 (M0 Ls) d m_M_carry 41 [some (.inr (.inr 113)), some (.inl x1), some (.inl x2), some (.inl 0)] [] w) := by
  rw [Lm_unf P0 (M0 Ls) sp_209 23]
  rfl
set_option maxRecDepth 100000 in
theorem E_209_41 (Ls d : Nat) (x1 x2 x3 : Int) (w : AW) : Lm P0 (M0 Ls) d m_M_carry 41 [some (.inr (.inr 113)), some (.inl x1), some (.inl x2), some (.inl x3)] [] w = (if x3 < 1100 then (if 0 ≤ (w32 ((w32 (1100 * x1)) + x3)) ∧ (w32 ((w32 (1100 * x1)) + x3)) < 6600 then (if 0 ≤ (w32 ((w32 (1100 * x2)) + x3)) ∧ (w32 ((w32 (1100 * x2)) + x3)) < 6600 then (if 0 ≤ (w32 ((w32 (1100 * x1)) + x3)) ∧ (w32 ((w32 (1100 * x1)) + x3)) < 6600 then (if 0 ≤ (w32 ((w32 (1100 * x2)) + x3)) ∧ (w32 ((w32 (1100 * x2)) + x3)) < 6600 then Lm P0 (M0 Ls) d m_M_carry 41 [some (.inr (.inr 113)), some (.inl x1), some (.inl x2), some (.inl (w32 (x3 + 1)))] [] (wC (wC w 119 (w32 ((w32 (1100 * x2)) + x3)) (rd w 119 (w32 ((w32 (1100 * x1)) + x3)))) 120 (w32 ((w32 (1100 * x2)) + x3)) (rd (wC w 119 (w32 ((w32 (1100 * x2)) + x3)) (rd w 119 (w32 ((w32 (1100 * x1)) + x3)))) 120 (w32 ((w32 (1100 * x1)) + x3)))) else none) else none) else none) else none) else some (none, w)) := by
  rw [Lm_unf P0 (M0 Ls) sp_209 39]
  rfl
def sp_210 : Nat → Bool := fun q => [0, 5, 20, 50, 59, 74, 104, 113, 120, 129, 140, 149, 160, 169, 180, 188].contains q
set_option maxRecDepth 100000 in
theorem E_210_0 (Ls d : Nat) (w : AW) : Lm P0 (M0 Ls) d m_M_readLine 0 [some (.inr (.inr 113))] [] w = Lk P0 (M0 Ls) d m_M_isWord [.inr (.inr 113), .inl 0] w (fun r_ w_ => Lm P0 (M0 Ls) d m_M_readLine 5 [some (.inr (.inr 113))] (r_.toList ++ []) w_) := by
  rw [Lm_unf P0 (M0 Ls) sp_210 4]
  rfl
set_option maxRecDepth 100000 in
theorem E_210_5 (Ls d : Nat) (y0 : Int) (w : AW) : Lm P0 (M0 Ls) d m_M_readLine 5 [some (.inr (.inr 113))] [.inl y0] w = (if y0 = 0 then Lk P0 (M0 Ls) d m_M_isWord [.inr (.inr 113), .inl 1] w (fun r_ w_ => Lm P0 (M0 Ls) d m_M_readLine 59 [some (.inr (.inr 113))] (r_.toList ++ []) w_) else (if (rd w 112 14) = 0 then Lk P0 (M0 Ls) d m_M_takeNumber [.inr (.inr 113), .inl 2, .inl 12] (wC (wC w 112 14 1) 112 7 (w32 ((rd (wC w 112 14 1) 112 7) + 1))) (fun r_ w_ => Lm P0 (M0 Ls) d m_M_readLine 50 [some (.inr (.inr 113))] (r_.toList ++ [.inl 330, .inr (.inr 119)]) w_) else Lk P0 (M0 Ls) d m_M_wrong [.inr (.inr 113), .inl 3] w (fun r_ w_ => Lm P0 (M0 Ls) d m_M_readLine 20 [some (.inr (.inr 113))] (r_.toList ++ []) w_))) := by
  rw [Lm_unf P0 (M0 Ls) sp_210 21]
  rfl
set_option maxRecDepth 100000 in
theorem E_210_20 (Ls d : Nat) (w : AW) : Lm P0 (M0 Ls) d m_M_readLine 20 [some (.inr (.inr 113))] [] w = some (none, w) := by
  rw [Lm_unf P0 (M0 Ls) sp_210 2]
  rfl
set_option maxRecDepth 100000 in
theorem E_210_50 (Ls d : Nat) (y0 y1 : Int) (w : AW) : Lm P0 (M0 Ls) d m_M_readLine 50 [some (.inr (.inr 113))] [.inl y0, .inl y1, .inr (.inr 119)] w = (if 0 ≤ y1 ∧ y1 < 1980 then Lm P0 (M0 Ls) d m_M_readLine 188 [some (.inr (.inr 113))] [] (wC w 118 y1 y0) else none) := by
  rw [Lm_unf P0 (M0 Ls) sp_210 4]
  rfl
set_option maxRecDepth 100000 in
theorem E_210_59 (Ls d : Nat) (y0 : Int) (w : AW) : Lm P0 (M0 Ls) d m_M_readLine 59 [some (.inr (.inr 113))] [.inl y0] w = (if y0 = 0 then Lk P0 (M0 Ls) d m_M_isWord [.inr (.inr 113), .inl 2] w (fun r_ w_ => Lm P0 (M0 Ls) d m_M_readLine 113 [some (.inr (.inr 113))] (r_.toList ++ []) w_) else (if (rd w 112 15) = 0 then Lk P0 (M0 Ls) d m_M_takeNumber [.inr (.inr 113), .inl 1, .inl 8] (wC (wC w 112 15 1) 112 7 (w32 ((rd (wC w 112 15 1) 112 7) + 1))) (fun r_ w_ => Lm P0 (M0 Ls) d m_M_readLine 104 [some (.inr (.inr 113))] (r_.toList ++ [.inl 331, .inr (.inr 119)]) w_) else Lk P0 (M0 Ls) d m_M_wrong [.inr (.inr 113), .inl 3] w (fun r_ w_ => Lm P0 (M0 Ls) d m_M_readLine 74 [some (.inr (.inr 113))] (r_.toList ++ []) w_))) := by
  rw [Lm_unf P0 (M0 Ls) sp_210 21]
  rfl
set_option maxRecDepth 100000 in
theorem E_210_74 (Ls d : Nat) (w : AW) : Lm P0 (M0 Ls) d m_M_readLine 74 [some (.inr (.inr 113))] [] w = some (none, w) := by
  rw [Lm_unf P0 (M0 Ls) sp_210 2]
  rfl
set_option maxRecDepth 100000 in
theorem E_210_104 (Ls d : Nat) (y0 y1 : Int) (w : AW) : Lm P0 (M0 Ls) d m_M_readLine 104 [some (.inr (.inr 113))] [.inl y0, .inl y1, .inr (.inr 119)] w = (if 0 ≤ y1 ∧ y1 < 1980 then Lm P0 (M0 Ls) d m_M_readLine 188 [some (.inr (.inr 113))] [] (wC w 118 y1 y0) else none) := by
  rw [Lm_unf P0 (M0 Ls) sp_210 4]
  rfl
set_option maxRecDepth 100000 in
theorem E_210_113 (Ls d : Nat) (y0 : Int) (w : AW) : Lm P0 (M0 Ls) d m_M_readLine 113 [some (.inr (.inr 113))] [.inl y0] w = (if y0 = 0 then Lk P0 (M0 Ls) d m_M_isWord [.inr (.inr 113), .inl 10] w (fun r_ w_ => Lm P0 (M0 Ls) d m_M_readLine 129 [some (.inr (.inr 113))] (r_.toList ++ []) w_) else Lk P0 (M0 Ls) d m_M_readEcho [.inr (.inr 113)] w (fun r_ w_ => Lm P0 (M0 Ls) d m_M_readLine 120 [some (.inr (.inr 113))] (r_.toList ++ []) w_)) := by
  rw [Lm_unf P0 (M0 Ls) sp_210 5]
  rfl
set_option maxRecDepth 100000 in
theorem E_210_120 (Ls d : Nat) (w : AW) : Lm P0 (M0 Ls) d m_M_readLine 120 [some (.inr (.inr 113))] [] w = Lm P0 (M0 Ls) d m_M_readLine 188 [some (.inr (.inr 113))] [] w := by
  rw [Lm_unf P0 (M0 Ls) sp_210 3]
  rfl
set_option maxRecDepth 100000 in
theorem E_210_129 (Ls d : Nat) (y0 : Int) (w : AW) : Lm P0 (M0 Ls) d m_M_readLine 129 [some (.inr (.inr 113))] [.inl y0] w = (if y0 = 0 then Lk P0 (M0 Ls) d m_M_isWord [.inr (.inr 113), .inl 11] w (fun r_ w_ => Lm P0 (M0 Ls) d m_M_readLine 149 [some (.inr (.inr 113))] (r_.toList ++ []) w_) else Lk P0 (M0 Ls) d m_M_readRule [.inr (.inr 113), .inl 43, .inl 4, .inl 0] w (fun r_ w_ => Lm P0 (M0 Ls) d m_M_readLine 140 [some (.inr (.inr 113))] (r_.toList ++ []) w_)) := by
  rw [Lm_unf P0 (M0 Ls) sp_210 7]
  rfl
set_option maxRecDepth 100000 in
theorem E_210_140 (Ls d : Nat) (w : AW) : Lm P0 (M0 Ls) d m_M_readLine 140 [some (.inr (.inr 113))] [] w = Lm P0 (M0 Ls) d m_M_readLine 188 [some (.inr (.inr 113))] [] w := by
  rw [Lm_unf P0 (M0 Ls) sp_210 3]
  rfl
set_option maxRecDepth 100000 in
theorem E_210_149 (Ls d : Nat) (y0 : Int) (w : AW) : Lm P0 (M0 Ls) d m_M_readLine 149 [some (.inr (.inr 113))] [.inl y0] w = (if y0 = 0 then Lk P0 (M0 Ls) d m_M_isWord [.inr (.inr 113), .inl 12] w (fun r_ w_ => Lm P0 (M0 Ls) d m_M_readLine 169 [some (.inr (.inr 113))] (r_.toList ++ []) w_) else Lk P0 (M0 Ls) d m_M_readRule [.inr (.inr 113), .inl 48, .inl 2, .inl 1] w (fun r_ w_ => Lm P0 (M0 Ls) d m_M_readLine 160 [some (.inr (.inr 113))] (r_.toList ++ []) w_)) := by
  rw [Lm_unf P0 (M0 Ls) sp_210 7]
  rfl
set_option maxRecDepth 100000 in
theorem E_210_160 (Ls d : Nat) (w : AW) : Lm P0 (M0 Ls) d m_M_readLine 160 [some (.inr (.inr 113))] [] w = Lm P0 (M0 Ls) d m_M_readLine 188 [some (.inr (.inr 113))] [] w := by
  rw [Lm_unf P0 (M0 Ls) sp_210 3]
  rfl
set_option maxRecDepth 100000 in
theorem E_210_169 (Ls d : Nat) (y0 : Int) (w : AW) : Lm P0 (M0 Ls) d m_M_readLine 169 [some (.inr (.inr 113))] [.inl y0] w = (if y0 = 0 then Lk P0 (M0 Ls) d m_M_wrong [.inr (.inr 113), .inl 1] w (fun r_ w_ => Lm P0 (M0 Ls) d m_M_readLine 188 [some (.inr (.inr 113))] (r_.toList ++ []) w_) else Lk P0 (M0 Ls) d m_M_readRule [.inr (.inr 113), .inl 51, .inl 2, .inl 2] w (fun r_ w_ => Lm P0 (M0 Ls) d m_M_readLine 180 [some (.inr (.inr 113))] (r_.toList ++ []) w_)) := by
  rw [Lm_unf P0 (M0 Ls) sp_210 7]
  rfl
set_option maxRecDepth 100000 in
theorem E_210_180 (Ls d : Nat) (w : AW) : Lm P0 (M0 Ls) d m_M_readLine 180 [some (.inr (.inr 113))] [] w = Lm P0 (M0 Ls) d m_M_readLine 188 [some (.inr (.inr 113))] [] w := by
  rw [Lm_unf P0 (M0 Ls) sp_210 3]
  rfl
set_option maxRecDepth 100000 in
theorem E_210_188 (Ls d : Nat) (w : AW) : Lm P0 (M0 Ls) d m_M_readLine 188 [some (.inr (.inr 113))] [] w = some (none, w) := by
  rw [Lm_unf P0 (M0 Ls) sp_210 2]
  rfl
def sp_211 : Nat → Bool := fun q => [0, 20, 44, 56, 62, 74, 87, 96, 106, 147, 161, 174, 182, 196, 207, 211].contains q
set_option maxRecDepth 100000 in
theorem E_211_0 (Ls d : Nat) (w : AW) : Lm P0 (M0 Ls) d m_M_readEcho 0 [some (.inr (.inr 113)), none, none, none] [] w = (if (rd w 118 332) = 8 then Lk P0 (M0 Ls) d m_M_wrong [.inr (.inr 113), .inl 5] w (fun r_ w_ => Lm P0 (M0 Ls) d m_M_readEcho 20 [some (.inr (.inr 113)), some (.inl (rd w 118 332)), none, none] (r_.toList ++ []) w_) else Lk P0 (M0 Ls) d m_M_takeWord [.inr (.inr 113), .inl 3] (wC w 112 7 (w32 ((rd w 112 7) + 1))) (fun r_ w_ => Lm P0 (M0 Ls) d m_M_readEcho 44 [some (.inr (.inr 113)), some (.inl (rd w 118 332)), some (.inl (w32 (333 + (w32 (5 * (rd w 118 332)))))), none] (r_.toList ++ []) w_)) := by
  rw [Lm_unf P0 (M0 Ls) sp_211 24]
  rfl
set_option maxRecDepth 100000 in
theorem E_211_20 (Ls d : Nat) (x1 : Int) (w : AW) : Lm P0 (M0 Ls) d m_M_readEcho 20 [some (.inr (.inr 113)), some (.inl x1), none, none] [] w = some (none, w) := by
  rw [Lm_unf P0 (M0 Ls) sp_211 2]
  rfl
set_option maxRecDepth 100000 in
theorem E_211_44 (Ls d : Nat) (x1 x2 : Int) (w : AW) : Lm P0 (M0 Ls) d m_M_readEcho 44 [some (.inr (.inr 113)), some (.inl x1), some (.inl x2), none] [] w = Lk P0 (M0 Ls) d m_M_takeNumber [.inr (.inr 113), .inl 1, .inl 64] w (fun r_ w_ => Lm P0 (M0 Ls) d m_M_readEcho 56 [some (.inr (.inr 113)), some (.inl x1), some (.inl x2), none] (r_.toList ++ [.inl x2, .inr (.inr 119)]) w_) := by
  rw [Lm_unf P0 (M0 Ls) sp_211 8]
  rfl
set_option maxRecDepth 100000 in
theorem E_211_56 (Ls d : Nat) (x1 x2 y0 y1 : Int) (w : AW) : Lm P0 (M0 Ls) d m_M_readEcho 56 [some (.inr (.inr 113)), some (.inl x1), some (.inl x2), none] [.inl y0, .inl y1, .inr (.inr 119)] w = (if 0 ≤ y1 ∧ y1 < 1980 then Lk P0 (M0 Ls) d m_M_isWord [.inr (.inr 113), .inl 4] (wC w 118 y1 y0) (fun r_ w_ => Lm P0 (M0 Ls) d m_M_readEcho 62 [some (.inr (.inr 113)), some (.inl x1), some (.inl x2), none] (r_.toList ++ []) w_) else none) := by
  rw [Lm_unf P0 (M0 Ls) sp_211 5]
  rfl
set_option maxRecDepth 100000 in
theorem E_211_62 (Ls d : Nat) (x1 x2 y0 : Int) (w : AW) : Lm P0 (M0 Ls) d m_M_readEcho 62 [some (.inr (.inr 113)), some (.inl x1), some (.inl x2), none] [.inl y0] w = (if y0 = 0 then Lk P0 (M0 Ls) d m_M_isWord [.inr (.inr 113), .inl 5] w (fun r_ w_ => Lm P0 (M0 Ls) d m_M_readEcho 74 [some (.inr (.inr 113)), some (.inl x1), some (.inl x2), none] (r_.toList ++ []) w_) else Lm P0 (M0 Ls) d m_M_readEcho 96 [some (.inr (.inr 113)), some (.inl x1), some (.inl x2), none] [.inl 4] w) := by
  rw [Lm_unf P0 (M0 Ls) sp_211 5]
  rfl
set_option maxRecDepth 100000 in
theorem E_211_74 (Ls d : Nat) (x1 x2 y0 : Int) (w : AW) : Lm P0 (M0 Ls) d m_M_readEcho 74 [some (.inr (.inr 113)), some (.inl x1), some (.inl x2), none] [.inl y0] w = (if y0 = 0 then Lk P0 (M0 Ls) d m_M_isWord [.inr (.inr 113), .inl 6] w (fun r_ w_ => Lm P0 (M0 Ls) d m_M_readEcho 87 [some (.inr (.inr 113)), some (.inl x1), some (.inl x2), none] (r_.toList ++ []) w_) else Lm P0 (M0 Ls) d m_M_readEcho 96 [some (.inr (.inr 113)), some (.inl x1), some (.inl x2), none] [.inl 5] w) := by
  rw [Lm_unf P0 (M0 Ls) sp_211 5]
  rfl
set_option maxRecDepth 100000 in
theorem E_211_87 (Ls d : Nat) (x1 x2 y0 : Int) (w : AW) : Lm P0 (M0 Ls) d m_M_readEcho 87 [some (.inr (.inr 113)), some (.inl x1), some (.inl x2), none] [.inl y0] w = (if y0 = 0 then Lm P0 (M0 Ls) d m_M_readEcho 96 [some (.inr (.inr 113)), some (.inl x1), some (.inl x2), none] [.inl (-1)] w else Lm P0 (M0 Ls) d m_M_readEcho 96 [some (.inr (.inr 113)), some (.inl x1), some (.inl x2), none] [.inl 6] w) := by
  rw [Lm_unf P0 (M0 Ls) sp_211 5]
  rfl
set_option maxRecDepth 100000 in
theorem E_211_96 (Ls d : Nat) (x1 x2 y0 : Int) (w : AW) : Lm P0 (M0 Ls) d m_M_readEcho 96 [some (.inr (.inr 113)), some (.inl x1), some (.inl x2), none] [.inl y0] w = (if y0 < 0 then Lk P0 (M0 Ls) d m_M_wrong [.inr (.inr 113), .inl 1] w (fun r_ w_ => Lm P0 (M0 Ls) d m_M_readEcho 106 [some (.inr (.inr 113)), some (.inl x1), some (.inl x2), some (.inl y0)] (r_.toList ++ []) w_) else Lm P0 (M0 Ls) d m_M_readEcho 106 [some (.inr (.inr 113)), some (.inl x1), some (.inl x2), some (.inl y0)] [] w) := by
  rw [Lm_unf P0 (M0 Ls) sp_211 7]
  rfl
set_option maxRecDepth 100000 in
theorem E_211_106 (Ls d : Nat) (x1 x2 x3 : Int) (w : AW) : Lm P0 (M0 Ls) d m_M_readEcho 106 [some (.inr (.inr 113)), some (.inl x1), some (.inl x2), some (.inl x3)] [] w = (if 0 < (rd w 112 8) then some (none, w) else (if 0 ≤ (w32 (x2 + 1)) ∧ (w32 (x2 + 1)) < 1980 then Lk P0 (M0 Ls) d m_M_takeNumber [.inr (.inr 113), .inl 0, .inl 24] (wC (wC w 112 7 (w32 ((rd w 112 7) + 1))) 118 (w32 (x2 + 1)) x3) (fun r_ w_ => Lm P0 (M0 Ls) d m_M_readEcho 147 [some (.inr (.inr 113)), some (.inl x1), some (.inl x2), some (.inl x3)] (r_.toList ++ [.inl (w32 (x2 + 2)), .inr (.inr 119)]) w_) else none)) := by
  rw [Lm_unf P0 (M0 Ls) sp_211 26]
  rfl
set_option maxRecDepth 100000 in
theorem E_211_147 (Ls d : Nat) (x1 x2 x3 y0 y1 : Int) (w : AW) : Lm P0 (M0 Ls) d m_M_readEcho 147 [some (.inr (.inr 113)), some (.inl x1), some (.inl x2), some (.inl x3)] [.inl y0, .inl y1, .inr (.inr 119)] w = (if 0 ≤ y1 ∧ y1 < 1980 then Lk P0 (M0 Ls) d m_M_hasWord [.inr (.inr 113), .inl 7] (wC w 118 y1 y0) (fun r_ w_ => Lm P0 (M0 Ls) d m_M_readEcho 161 [some (.inr (.inr 113)), some (.inl x1), some (.inl x2), some (.inl x3)] (r_.toList ++ [.inl (w32 (x2 + 3)), .inr (.inr 119)]) w_) else none) := by
  rw [Lm_unf P0 (M0 Ls) sp_211 10]
  rfl
set_option maxRecDepth 100000 in
theorem E_211_161 (Ls d : Nat) (x1 x2 x3 y0 y1 : Int) (w : AW) : Lm P0 (M0 Ls) d m_M_readEcho 161 [some (.inr (.inr 113)), some (.inl x1), some (.inl x2), some (.inl x3)] [.inl y0, .inl y1, .inr (.inr 119)] w = (if y0 = 0 then Lk P0 (M0 Ls) d m_M_hasWord [.inr (.inr 113), .inl 8] w (fun r_ w_ => Lm P0 (M0 Ls) d m_M_readEcho 174 [some (.inr (.inr 113)), some (.inl x1), some (.inl x2), some (.inl x3)] (r_.toList ++ [.inl y1, .inr (.inr 119)]) w_) else Lm P0 (M0 Ls) d m_M_readEcho 182 [some (.inr (.inr 113)), some (.inl x1), some (.inl x2), some (.inl x3)] [.inl 1, .inl y1, .inr (.inr 119)] w) := by
  rw [Lm_unf P0 (M0 Ls) sp_211 5]
  rfl
set_option maxRecDepth 100000 in
theorem E_211_174 (Ls d : Nat) (x1 x2 x3 y0 y1 : Int) (w : AW) : Lm P0 (M0 Ls) d m_M_readEcho 174 [some (.inr (.inr 113)), some (.inl x1), some (.inl x2), some (.inl x3)] [.inl y0, .inl y1, .inr (.inr 119)] w = (if y0 = 0 then Lm P0 (M0 Ls) d m_M_readEcho 182 [some (.inr (.inr 113)), some (.inl x1), some (.inl x2), some (.inl x3)] [.inl 0, .inl y1, .inr (.inr 119)] w else Lm P0 (M0 Ls) d m_M_readEcho 182 [some (.inr (.inr 113)), some (.inl x1), some (.inl x2), some (.inl x3)] [.inl 2, .inl y1, .inr (.inr 119)] w) := by
  rw [Lm_unf P0 (M0 Ls) sp_211 5]
  rfl
set_option maxRecDepth 100000 in
theorem E_211_182 (Ls d : Nat) (x1 x2 x3 y0 y1 : Int) (w : AW) : Lm P0 (M0 Ls) d m_M_readEcho 182 [some (.inr (.inr 113)), some (.inl x1), some (.inl x2), some (.inl x3)] [.inl y0, .inl y1, .inr (.inr 119)] w = (if 0 ≤ y1 ∧ y1 < 1980 then Lk P0 (M0 Ls) d m_M_hasWord [.inr (.inr 113), .inl 9] (wC w 118 y1 y0) (fun r_ w_ => Lm P0 (M0 Ls) d m_M_readEcho 196 [some (.inr (.inr 113)), some (.inl x1), some (.inl x2), some (.inl x3)] (r_.toList ++ [.inl (w32 (x2 + 4)), .inr (.inr 119)]) w_) else none) := by
  rw [Lm_unf P0 (M0 Ls) sp_211 10]
  rfl
set_option maxRecDepth 100000 in
theorem E_211_196 (Ls d : Nat) (x1 x2 x3 y0 y1 : Int) (w : AW) : Lm P0 (M0 Ls) d m_M_readEcho 196 [some (.inr (.inr 113)), some (.inl x1), some (.inl x2), some (.inl x3)] [.inl y0, .inl y1, .inr (.inr 119)] w = (if y0 = 0 then Lm P0 (M0 Ls) d m_M_readEcho 211 [some (.inr (.inr 113)), some (.inl x1), some (.inl x2), some (.inl x3)] [.inl 0, .inl y1, .inr (.inr 119)] w else Lk P0 (M0 Ls) d m_M_takeNumber [.inr (.inr 113), .inl 1, .inl 200] w (fun r_ w_ => Lm P0 (M0 Ls) d m_M_readEcho 207 [some (.inr (.inr 113)), some (.inl x1), some (.inl x2), some (.inl x3)] (r_.toList ++ [.inl y1, .inr (.inr 119)]) w_)) := by
  rw [Lm_unf P0 (M0 Ls) sp_211 6]
  rfl
set_option maxRecDepth 100000 in
theorem E_211_207 (Ls d : Nat) (x1 x2 x3 y0 y1 : Int) (w : AW) : Lm P0 (M0 Ls) d m_M_readEcho 207 [some (.inr (.inr 113)), some (.inl x1), some (.inl x2), some (.inl x3)] [.inl y0, .inl y1, .inr (.inr 119)] w = Lm P0 (M0 Ls) d m_M_readEcho 211 [some (.inr (.inr 113)), some (.inl x1), some (.inl x2), some (.inl x3)] [.inl y0, .inl y1, .inr (.inr 119)] w := by
  rw [Lm_unf P0 (M0 Ls) sp_211 3]
  rfl
set_option maxRecDepth 100000 in
theorem E_211_211 (Ls d : Nat) (x1 x2 x3 y0 y1 : Int) (w : AW) : Lm P0 (M0 Ls) d m_M_readEcho 211 [some (.inr (.inr 113)), some (.inl x1), some (.inl x2), some (.inl x3)] [.inl y0, .inl y1, .inr (.inr 119)] w = (if 0 ≤ y1 ∧ y1 < 1980 then some (none, wC (wC w 118 y1 y0) 118 332 (w32 ((rd (wC w 118 y1 y0) 118 332) + 1))) else none) := by
  rw [Lm_unf P0 (M0 Ls) sp_211 11]
  rfl
def sp_212 : Nat → Bool := fun q => [0, 23, 63, 69].contains q
set_option maxRecDepth 100000 in
theorem E_212_0 (Ls d : Nat) (p1 p2 p3 : Int) (w : AW) : Lm P0 (M0 Ls) d m_M_readRule 0 [some (.inr (.inr 113)), some (.inl p1), some (.inl p2), some (.inl p3), none] [] w = (if 0 ≤ (w32 (330 + p1)) ∧ (w32 (330 + p1)) < 1980 then (if (rd w 118 (w32 (330 + p1))) = p2 then Lk P0 (M0 Ls) d m_M_wrong [.inr (.inr 113), .inl 5] w (fun r_ w_ => Lm P0 (M0 Ls) d m_M_readRule 23 [some (.inr (.inr 113)), some (.inl p1), some (.inl p2), some (.inl p3), some (.inl (rd w 118 (w32 (330 + p1))))] (r_.toList ++ []) w_) else (if 0 ≤ (w32 ((w32 ((w32 (330 + p1)) + 1)) + (rd w 118 (w32 (330 + p1))))) ∧ (w32 ((w32 ((w32 (330 + p1)) + 1)) + (rd w 118 (w32 (330 + p1))))) < 1980 then Lk P0 (M0 Ls) d m_M_all [.inr (.inr 113), .inl 0] (wC (wC (wC w 112 7 (w32 ((rd w 112 7) + 1))) 112 17 p3) 118 (w32 ((w32 ((w32 (330 + p1)) + 1)) + (rd w 118 (w32 (330 + p1))))) (rd (wC (wC w 112 7 (w32 ((rd w 112 7) + 1))) 112 17 p3) 112 13)) (fun r_ w_ => Lm P0 (M0 Ls) d m_M_readRule 63 [some (.inr (.inr 113)), some (.inl p1), some (.inl p2), some (.inl p3), some (.inl (rd w 118 (w32 (330 + p1))))] (r_.toList ++ []) w_) else none)) else none) := by
  rw [Lm_unf P0 (M0 Ls) sp_212 35]
  rfl
set_option maxRecDepth 100000 in
theorem E_212_23 (Ls d : Nat) (x1 x2 x3 x4 : Int) (w : AW) : Lm P0 (M0 Ls) d m_M_readRule 23 [some (.inr (.inr 113)), some (.inl x1), some (.inl x2), some (.inl x3), some (.inl x4)] [] w = some (none, w) := by
  rw [Lm_unf P0 (M0 Ls) sp_212 2]
  rfl
set_option maxRecDepth 100000 in
theorem E_212_63 (Ls d : Nat) (x1 x2 x3 x4 : Int) (w : AW) : Lm P0 (M0 Ls) d m_M_readRule 63 [some (.inr (.inr 113)), some (.inl x1), some (.inl x2), some (.inl x3), some (.inl x4)] [] w = Lk P0 (M0 Ls) d m_M_emit [.inr (.inr 113), .inl 0, .inl 0] w (fun r_ w_ => Lm P0 (M0 Ls) d m_M_readRule 69 [some (.inr (.inr 113)), some (.inl x1), some (.inl x2), some (.inl x3), some (.inl x4)] (r_.toList ++ []) w_) := by
  rw [Lm_unf P0 (M0 Ls) sp_212 5]
  rfl
set_option maxRecDepth 100000 in
theorem E_212_69 (Ls d : Nat) (x1 x2 x3 x4 : Int) (w : AW) : Lm P0 (M0 Ls) d m_M_readRule 69 [some (.inr (.inr 113)), some (.inl x1), some (.inl x2), some (.inl x3), some (.inl x4)] [] w = (if 0 ≤ (w32 (330 + x1)) ∧ (w32 (330 + x1)) < 1980 then (if 0 ≤ (w32 (330 + x1)) ∧ (w32 (330 + x1)) < 1980 then some (none, wC w 118 (w32 (330 + x1)) (w32 ((rd w 118 (w32 (330 + x1))) + 1))) else none) else none) := by
  rw [Lm_unf P0 (M0 Ls) sp_212 12]
  rfl
def sp_213 : Nat → Bool := fun q => [0].contains q
set_option maxRecDepth 100000 in
theorem E_213_0 (Ls d : Nat) (p1 p2 : Int) (w : AW) : Lm P0 (M0 Ls) d m_M_emit 0 [some (.inr (.inr 113)), some (.inl p1), some (.inl p2)] [] w = (if 0 ≤ (w32 (1100 + (rd w 112 13))) ∧ (w32 (1100 + (rd w 112 13))) < 6600 then (if 0 ≤ (w32 (1100 + (rd (wC w 119 (w32 (1100 + (rd w 112 13))) p1) 112 13))) ∧ (w32 (1100 + (rd (wC w 119 (w32 (1100 + (rd w 112 13))) p1) 112 13))) < 6600 then some (none, wC (wC (wC w 119 (w32 (1100 + (rd w 112 13))) p1) 120 (w32 (1100 + (rd (wC w 119 (w32 (1100 + (rd w 112 13))) p1) 112 13))) p2) 112 13 (w32 ((rd (wC (wC w 119 (w32 (1100 + (rd w 112 13))) p1) 120 (w32 (1100 + (rd (wC w 119 (w32 (1100 + (rd w 112 13))) p1) 112 13))) p2) 112 13) + 1))) else none) else none) := by
  rw [Lm_unf P0 (M0 Ls) sp_213 24]
  rfl
def sp_214 : Nat → Bool := fun q => [0, 5, 11, 20, 23, 29, 45, 57, 61].contains q
set_option maxRecDepth 100000 in
theorem E_214_0 (Ls d : Nat) (p1 : Int) (w : AW) : Lm P0 (M0 Ls) d m_M_all 0 [some (.inr (.inr 113)), some (.inl p1), none] [] w = Lk P0 (M0 Ls) d m_M_test [.inr (.inr 113), .inl p1] w (fun r_ w_ => Lm P0 (M0 Ls) d m_M_all 5 [some (.inr (.inr 113)), some (.inl p1), none] (r_.toList ++ []) w_) := by
  rw [Lm_unf P0 (M0 Ls) sp_214 4]
  rfl
set_option maxRecDepth 100000 in
theorem E_214_5 (Ls d : Nat) (x1 : Int) (u2 : Option AV) (w : AW) : Lm P0 (M0 Ls) d m_M_all 5 [some (.inr (.inr 113)), some (.inl x1), u2] [] w = Lk P0 (M0 Ls) d m_M_isWord [.inr (.inr 113), .inl 14] w (fun r_ w_ => Lm P0 (M0 Ls) d m_M_all 11 [some (.inr (.inr 113)), some (.inl x1), u2] (r_.toList ++ []) w_) := by
  rw [Lm_unf P0 (M0 Ls) sp_214 4]
  rfl
set_option maxRecDepth 100000 in
theorem E_214_11 (Ls d : Nat) (x1 y0 : Int) (u2 : Option AV) (w : AW) : Lm P0 (M0 Ls) d m_M_all 11 [some (.inr (.inr 113)), some (.inl x1), u2] [.inl y0] w = (if y0 = 0 then Lk P0 (M0 Ls) d m_M_isWord [.inr (.inr 113), .inl 15] w (fun r_ w_ => Lm P0 (M0 Ls) d m_M_all 20 [some (.inr (.inr 113)), some (.inl x1), u2] (r_.toList ++ []) w_) else Lm P0 (M0 Ls) d m_M_all 23 [some (.inr (.inr 113)), some (.inl x1), u2] [] w) := by
  rw [Lm_unf P0 (M0 Ls) sp_214 5]
  rfl
set_option maxRecDepth 100000 in
theorem E_214_20 (Ls d : Nat) (x1 y0 : Int) (u2 : Option AV) (w : AW) : Lm P0 (M0 Ls) d m_M_all 20 [some (.inr (.inr 113)), some (.inl x1), u2] [.inl y0] w = (if y0 = 0 then some (none, w) else Lm P0 (M0 Ls) d m_M_all 23 [some (.inr (.inr 113)), some (.inl x1), u2] [] w) := by
  rw [Lm_unf P0 (M0 Ls) sp_214 3]
  rfl
set_option maxRecDepth 100000 in
theorem E_214_23 (Ls d : Nat) (x1 : Int) (u2 : Option AV) (w : AW) : Lm P0 (M0 Ls) d m_M_all 23 [some (.inr (.inr 113)), some (.inl x1), u2] [] w = Lk P0 (M0 Ls) d m_M_isWord [.inr (.inr 113), .inl 14] w (fun r_ w_ => Lm P0 (M0 Ls) d m_M_all 29 [some (.inr (.inr 113)), some (.inl x1), u2] (r_.toList ++ []) w_) := by
  rw [Lm_unf P0 (M0 Ls) sp_214 4]
  rfl
set_option maxRecDepth 100000 in
theorem E_214_29 (Ls d : Nat) (x1 y0 : Int) (u2 : Option AV) (w : AW) : Lm P0 (M0 Ls) d m_M_all 29 [some (.inr (.inr 113)), some (.inl x1), u2] [.inl y0] w = Lk P0 (M0 Ls) d m_M_test [.inr (.inr 113), .inl x1] (wC w 112 7 (w32 ((rd w 112 7) + 1))) (fun r_ w_ => Lm P0 (M0 Ls) d m_M_all 45 [some (.inr (.inr 113)), some (.inl x1), some (.inl y0)] (r_.toList ++ []) w_) := by
  rw [Lm_unf P0 (M0 Ls) sp_214 11]
  rfl
set_option maxRecDepth 100000 in
theorem E_214_45 (Ls d : Nat) (x1 x2 : Int) (w : AW) : Lm P0 (M0 Ls) d m_M_all 45 [some (.inr (.inr 113)), some (.inl x1), some (.inl x2)] [] w = (if x2 = 0 then Lm P0 (M0 Ls) d m_M_all 57 [some (.inr (.inr 113)), some (.inl x1), some (.inl x2)] [.inl 10, .inr (.inr 113)] w else Lm P0 (M0 Ls) d m_M_all 57 [some (.inr (.inr 113)), some (.inl x1), some (.inl x2)] [.inl 9, .inr (.inr 113)] w) := by
  rw [Lm_unf P0 (M0 Ls) sp_214 7]
  rfl
set_option maxRecDepth 100000 in
theorem E_214_57 (Ls d : Nat) (x1 x2 y0 : Int) (w : AW) : Lm P0 (M0 Ls) d m_M_all 57 [some (.inr (.inr 113)), some (.inl x1), some (.inl x2)] [.inl y0, .inr (.inr 113)] w = Lk P0 (M0 Ls) d m_M_emit [.inr (.inr 113), .inl y0, .inl 0] w (fun r_ w_ => Lm P0 (M0 Ls) d m_M_all 61 [some (.inr (.inr 113)), some (.inl x1), some (.inl x2)] (r_.toList ++ []) w_) := by
  rw [Lm_unf P0 (M0 Ls) sp_214 3]
  rfl
set_option maxRecDepth 100000 in
theorem E_214_61 (Ls d : Nat) (x1 x2 : Int) (w : AW) : Lm P0 (M0 Ls) d m_M_all 61 [some (.inr (.inr 113)), some (.inl x1), some (.inl x2)] [] w = Lm P0 (M0 Ls) d m_M_all 5 [some (.inr (.inr 113)), some (.inl x1), some (.inl x2)] [] w := by
  rw [Lm_unf P0 (M0 Ls) sp_214 3]
  rfl
def sp_215 : Nat → Bool := fun q => [0, 5, 11, 18, 27, 30, 35, 47, 51].contains q
set_option maxRecDepth 100000 in
theorem E_215_0 (Ls d : Nat) (p1 : Int) (w : AW) : Lm P0 (M0 Ls) d m_M_test 0 [some (.inr (.inr 113)), some (.inl p1), none] [] w = Lk P0 (M0 Ls) d m_M_sums [.inr (.inr 113), .inl p1] w (fun r_ w_ => Lm P0 (M0 Ls) d m_M_test 5 [some (.inr (.inr 113)), some (.inl p1), none] (r_.toList ++ []) w_) := by
  rw [Lm_unf P0 (M0 Ls) sp_215 4]
  rfl
set_option maxRecDepth 100000 in
theorem E_215_5 (Ls d : Nat) (x1 : Int) (w : AW) : Lm P0 (M0 Ls) d m_M_test 5 [some (.inr (.inr 113)), some (.inl x1), none] [] w = Lk P0 (M0 Ls) d m_M_isSign [.inr (.inr 113), .inl 60] w (fun r_ w_ => Lm P0 (M0 Ls) d m_M_test 11 [some (.inr (.inr 113)), some (.inl x1), none] (r_.toList ++ []) w_) := by
  rw [Lm_unf P0 (M0 Ls) sp_215 4]
  rfl
set_option maxRecDepth 100000 in
theorem E_215_11 (Ls d : Nat) (x1 y0 : Int) (w : AW) : Lm P0 (M0 Ls) d m_M_test 11 [some (.inr (.inr 113)), some (.inl x1), none] [.inl y0] w = Lk P0 (M0 Ls) d m_M_hasSign [.inr (.inr 113), .inl 60] w (fun r_ w_ => Lm P0 (M0 Ls) d m_M_test 18 [some (.inr (.inr 113)), some (.inl x1), some (.inl y0)] (r_.toList ++ []) w_) := by
  rw [Lm_unf P0 (M0 Ls) sp_215 5]
  rfl
set_option maxRecDepth 100000 in
theorem E_215_18 (Ls d : Nat) (x1 x2 y0 : Int) (w : AW) : Lm P0 (M0 Ls) d m_M_test 18 [some (.inr (.inr 113)), some (.inl x1), some (.inl x2)] [.inl y0] w = (if y0 = 0 then Lk P0 (M0 Ls) d m_M_hasSign [.inr (.inr 113), .inl 61] w (fun r_ w_ => Lm P0 (M0 Ls) d m_M_test 27 [some (.inr (.inr 113)), some (.inl x1), some (.inl x2)] (r_.toList ++ []) w_) else Lm P0 (M0 Ls) d m_M_test 30 [some (.inr (.inr 113)), some (.inl x1), some (.inl x2)] [] w) := by
  rw [Lm_unf P0 (M0 Ls) sp_215 5]
  rfl
set_option maxRecDepth 100000 in
theorem E_215_27 (Ls d : Nat) (x1 x2 y0 : Int) (w : AW) : Lm P0 (M0 Ls) d m_M_test 27 [some (.inr (.inr 113)), some (.inl x1), some (.inl x2)] [.inl y0] w = (if y0 = 0 then Lm P0 (M0 Ls) d m_M_test 51 [some (.inr (.inr 113)), some (.inl x1), some (.inl x2)] [] w else Lm P0 (M0 Ls) d m_M_test 30 [some (.inr (.inr 113)), some (.inl x1), some (.inl x2)] [] w) := by
  rw [Lm_unf P0 (M0 Ls) sp_215 3]
  rfl
set_option maxRecDepth 100000 in
theorem E_215_30 (Ls d : Nat) (x1 x2 : Int) (w : AW) : Lm P0 (M0 Ls) d m_M_test 30 [some (.inr (.inr 113)), some (.inl x1), some (.inl x2)] [] w = Lk P0 (M0 Ls) d m_M_sums [.inr (.inr 113), .inl x1] w (fun r_ w_ => Lm P0 (M0 Ls) d m_M_test 35 [some (.inr (.inr 113)), some (.inl x1), some (.inl x2)] (r_.toList ++ []) w_) := by
  rw [Lm_unf P0 (M0 Ls) sp_215 4]
  rfl
set_option maxRecDepth 100000 in
theorem E_215_35 (Ls d : Nat) (x1 x2 : Int) (w : AW) : Lm P0 (M0 Ls) d m_M_test 35 [some (.inr (.inr 113)), some (.inl x1), some (.inl x2)] [] w = (if x2 = 0 then Lm P0 (M0 Ls) d m_M_test 47 [some (.inr (.inr 113)), some (.inl x1), some (.inl x2)] [.inl 8, .inr (.inr 113)] w else Lm P0 (M0 Ls) d m_M_test 47 [some (.inr (.inr 113)), some (.inl x1), some (.inl x2)] [.inl 7, .inr (.inr 113)] w) := by
  rw [Lm_unf P0 (M0 Ls) sp_215 7]
  rfl
set_option maxRecDepth 100000 in
theorem E_215_47 (Ls d : Nat) (x1 x2 y0 : Int) (w : AW) : Lm P0 (M0 Ls) d m_M_test 47 [some (.inr (.inr 113)), some (.inl x1), some (.inl x2)] [.inl y0, .inr (.inr 113)] w = Lk P0 (M0 Ls) d m_M_emit [.inr (.inr 113), .inl y0, .inl 0] w (fun r_ w_ => Lm P0 (M0 Ls) d m_M_test 51 [some (.inr (.inr 113)), some (.inl x1), some (.inl x2)] (r_.toList ++ []) w_) := by
  rw [Lm_unf P0 (M0 Ls) sp_215 3]
  rfl
set_option maxRecDepth 100000 in
theorem E_215_51 (Ls d : Nat) (x1 x2 : Int) (w : AW) : Lm P0 (M0 Ls) d m_M_test 51 [some (.inr (.inr 113)), some (.inl x1), some (.inl x2)] [] w = some (none, w) := by
  rw [Lm_unf P0 (M0 Ls) sp_215 2]
  rfl
def sp_216 : Nat → Bool := fun q => [0, 5, 11, 20, 23, 29, 45, 55, 59].contains q
set_option maxRecDepth 100000 in
theorem E_216_0 (Ls d : Nat) (p1 : Int) (w : AW) : Lm P0 (M0 Ls) d m_M_sums 0 [some (.inr (.inr 113)), some (.inl p1), none] [] w = Lk P0 (M0 Ls) d m_M_products [.inr (.inr 113), .inl p1] w (fun r_ w_ => Lm P0 (M0 Ls) d m_M_sums 5 [some (.inr (.inr 113)), some (.inl p1), none] (r_.toList ++ []) w_) := by
  rw [Lm_unf P0 (M0 Ls) sp_216 4]
  rfl
set_option maxRecDepth 100000 in
theorem E_216_5 (Ls d : Nat) (x1 : Int) (u2 : Option AV) (w : AW) : Lm P0 (M0 Ls) d m_M_sums 5 [some (.inr (.inr 113)), some (.inl x1), u2] [] w = Lk P0 (M0 Ls) d m_M_isSign [.inr (.inr 113), .inl 43] w (fun r_ w_ => Lm P0 (M0 Ls) d m_M_sums 11 [some (.inr (.inr 113)), some (.inl x1), u2] (r_.toList ++ []) w_) := by
  rw [Lm_unf P0 (M0 Ls) sp_216 4]
  rfl
set_option maxRecDepth 100000 in
theorem E_216_11 (Ls d : Nat) (x1 y0 : Int) (u2 : Option AV) (w : AW) : Lm P0 (M0 Ls) d m_M_sums 11 [some (.inr (.inr 113)), some (.inl x1), u2] [.inl y0] w = (if y0 = 0 then Lk P0 (M0 Ls) d m_M_isSign [.inr (.inr 113), .inl 45] w (fun r_ w_ => Lm P0 (M0 Ls) d m_M_sums 20 [some (.inr (.inr 113)), some (.inl x1), u2] (r_.toList ++ []) w_) else Lm P0 (M0 Ls) d m_M_sums 23 [some (.inr (.inr 113)), some (.inl x1), u2] [] w) := by
  rw [Lm_unf P0 (M0 Ls) sp_216 5]
  rfl
set_option maxRecDepth 100000 in
theorem E_216_20 (Ls d : Nat) (x1 y0 : Int) (u2 : Option AV) (w : AW) : Lm P0 (M0 Ls) d m_M_sums 20 [some (.inr (.inr 113)), some (.inl x1), u2] [.inl y0] w = (if y0 = 0 then some (none, w) else Lm P0 (M0 Ls) d m_M_sums 23 [some (.inr (.inr 113)), some (.inl x1), u2] [] w) := by
  rw [Lm_unf P0 (M0 Ls) sp_216 3]
  rfl
set_option maxRecDepth 100000 in
theorem E_216_23 (Ls d : Nat) (x1 : Int) (u2 : Option AV) (w : AW) : Lm P0 (M0 Ls) d m_M_sums 23 [some (.inr (.inr 113)), some (.inl x1), u2] [] w = Lk P0 (M0 Ls) d m_M_isSign [.inr (.inr 113), .inl 43] w (fun r_ w_ => Lm P0 (M0 Ls) d m_M_sums 29 [some (.inr (.inr 113)), some (.inl x1), u2] (r_.toList ++ []) w_) := by
  rw [Lm_unf P0 (M0 Ls) sp_216 4]
  rfl
set_option maxRecDepth 100000 in
theorem E_216_29 (Ls d : Nat) (x1 y0 : Int) (u2 : Option AV) (w : AW) : Lm P0 (M0 Ls) d m_M_sums 29 [some (.inr (.inr 113)), some (.inl x1), u2] [.inl y0] w = Lk P0 (M0 Ls) d m_M_products [.inr (.inr 113), .inl x1] (wC w 112 7 (w32 ((rd w 112 7) + 1))) (fun r_ w_ => Lm P0 (M0 Ls) d m_M_sums 45 [some (.inr (.inr 113)), some (.inl x1), some (.inl y0)] (r_.toList ++ []) w_) := by
  rw [Lm_unf P0 (M0 Ls) sp_216 11]
  rfl
set_option maxRecDepth 100000 in
theorem E_216_45 (Ls d : Nat) (x1 x2 : Int) (w : AW) : Lm P0 (M0 Ls) d m_M_sums 45 [some (.inr (.inr 113)), some (.inl x1), some (.inl x2)] [] w = (if x2 = 0 then Lm P0 (M0 Ls) d m_M_sums 55 [some (.inr (.inr 113)), some (.inl x1), some (.inl x2)] [.inl 5, .inr (.inr 113)] w else Lm P0 (M0 Ls) d m_M_sums 55 [some (.inr (.inr 113)), some (.inl x1), some (.inl x2)] [.inl 4, .inr (.inr 113)] w) := by
  rw [Lm_unf P0 (M0 Ls) sp_216 7]
  rfl
set_option maxRecDepth 100000 in
theorem E_216_55 (Ls d : Nat) (x1 x2 y0 : Int) (w : AW) : Lm P0 (M0 Ls) d m_M_sums 55 [some (.inr (.inr 113)), some (.inl x1), some (.inl x2)] [.inl y0, .inr (.inr 113)] w = Lk P0 (M0 Ls) d m_M_emit [.inr (.inr 113), .inl y0, .inl 0] w (fun r_ w_ => Lm P0 (M0 Ls) d m_M_sums 59 [some (.inr (.inr 113)), some (.inl x1), some (.inl x2)] (r_.toList ++ []) w_) := by
  rw [Lm_unf P0 (M0 Ls) sp_216 3]
  rfl
set_option maxRecDepth 100000 in
theorem E_216_59 (Ls d : Nat) (x1 x2 : Int) (w : AW) : Lm P0 (M0 Ls) d m_M_sums 59 [some (.inr (.inr 113)), some (.inl x1), some (.inl x2)] [] w = Lm P0 (M0 Ls) d m_M_sums 5 [some (.inr (.inr 113)), some (.inl x1), some (.inl x2)] [] w := by
  rw [Lm_unf P0 (M0 Ls) sp_216 3]
  rfl
def sp_217 : Nat → Bool := fun q => [0, 5, 11, 19, 26].contains q
set_option maxRecDepth 100000 in
theorem E_217_0 (Ls d : Nat) (p1 : Int) (w : AW) : Lm P0 (M0 Ls) d m_M_products 0 [some (.inr (.inr 113)), some (.inl p1)] [] w = Lk P0 (M0 Ls) d m_M_takePart [.inr (.inr 113), .inl p1] w (fun r_ w_ => Lm P0 (M0 Ls) d m_M_products 5 [some (.inr (.inr 113)), some (.inl p1)] (r_.toList ++ []) w_) := by
  rw [Lm_unf P0 (M0 Ls) sp_217 4]
  rfl
set_option maxRecDepth 100000 in
theorem E_217_5 (Ls d : Nat) (x1 : Int) (w : AW) : Lm P0 (M0 Ls) d m_M_products 5 [some (.inr (.inr 113)), some (.inl x1)] [] w = Lk P0 (M0 Ls) d m_M_hasSign [.inr (.inr 113), .inl 42] w (fun r_ w_ => Lm P0 (M0 Ls) d m_M_products 11 [some (.inr (.inr 113)), some (.inl x1)] (r_.toList ++ []) w_) := by
  rw [Lm_unf P0 (M0 Ls) sp_217 4]
  rfl
set_option maxRecDepth 100000 in
theorem E_217_11 (Ls d : Nat) (x1 y0 : Int) (w : AW) : Lm P0 (M0 Ls) d m_M_products 11 [some (.inr (.inr 113)), some (.inl x1)] [.inl y0] w = (if y0 = 0 then some (none, w) else Lk P0 (M0 Ls) d m_M_takePart [.inr (.inr 113), .inl x1] w (fun r_ w_ => Lm P0 (M0 Ls) d m_M_products 19 [some (.inr (.inr 113)), some (.inl x1)] (r_.toList ++ []) w_)) := by
  rw [Lm_unf P0 (M0 Ls) sp_217 5]
  rfl
set_option maxRecDepth 100000 in
theorem E_217_19 (Ls d : Nat) (x1 : Int) (w : AW) : Lm P0 (M0 Ls) d m_M_products 19 [some (.inr (.inr 113)), some (.inl x1)] [] w = Lk P0 (M0 Ls) d m_M_emit [.inr (.inr 113), .inl 6, .inl 0] w (fun r_ w_ => Lm P0 (M0 Ls) d m_M_products 26 [some (.inr (.inr 113)), some (.inl x1)] (r_.toList ++ []) w_) := by
  rw [Lm_unf P0 (M0 Ls) sp_217 5]
  rfl
set_option maxRecDepth 100000 in
theorem E_217_26 (Ls d : Nat) (x1 : Int) (w : AW) : Lm P0 (M0 Ls) d m_M_products 26 [some (.inr (.inr 113)), some (.inl x1)] [] w = Lm P0 (M0 Ls) d m_M_products 5 [some (.inr (.inr 113)), some (.inl x1)] [] w := by
  rw [Lm_unf P0 (M0 Ls) sp_217 3]
  rfl
def sp_218 : Nat → Bool := fun q => [0, 25, 28, 33].contains q
set_option maxRecDepth 100000 in
theorem E_218_0 (Ls d : Nat) (p1 : Int) (w : AW) : Lm P0 (M0 Ls) d m_M_mayStand 0 [some (.inr (.inr 113)), some (.inl p1)] [] w = (if p1 = 0 then Lm P0 (M0 Ls) d m_M_mayStand 28 [some (.inr (.inr 113)), some (.inl p1)] [] w else (if (rd w 112 17) = 2 then Lm P0 (M0 Ls) d m_M_mayStand 28 [some (.inr (.inr 113)), some (.inl p1)] [] w else (if (rd w 112 17) = 0 then Lm P0 (M0 Ls) d m_M_mayStand 25 [some (.inr (.inr 113)), some (.inl p1)] [.inl 1, .inl p1] w else Lm P0 (M0 Ls) d m_M_mayStand 25 [some (.inr (.inr 113)), some (.inl p1)] [.inl 2, .inl p1] w))) := by
  rw [Lm_unf P0 (M0 Ls) sp_218 14]
  rfl
set_option maxRecDepth 100000 in
theorem E_218_25 (Ls d : Nat) (x1 y0 y1 : Int) (w : AW) : Lm P0 (M0 Ls) d m_M_mayStand 25 [some (.inr (.inr 113)), some (.inl x1)] [.inl y0, .inl y1] w = (if y1 = y0 then Lm P0 (M0 Ls) d m_M_mayStand 28 [some (.inr (.inr 113)), some (.inl x1)] [] w else Lm P0 (M0 Ls) d m_M_mayStand 33 [some (.inr (.inr 113)), some (.inl x1)] [.inl 0] w) := by
  rw [Lm_unf P0 (M0 Ls) sp_218 4]
  rfl
set_option maxRecDepth 100000 in
theorem E_218_28 (Ls d : Nat) (x1 : Int) (w : AW) : Lm P0 (M0 Ls) d m_M_mayStand 28 [some (.inr (.inr 113)), some (.inl x1)] [] w = Lm P0 (M0 Ls) d m_M_mayStand 33 [some (.inr (.inr 113)), some (.inl x1)] [.inl 1] w := by
  rw [Lm_unf P0 (M0 Ls) sp_218 4]
  rfl
set_option maxRecDepth 100000 in
theorem E_218_33 (Ls d : Nat) (x1 y0 : Int) (w : AW) : Lm P0 (M0 Ls) d m_M_mayStand 33 [some (.inr (.inr 113)), some (.inl x1)] [.inl y0] w = (if rok 3 y0 = true then some (some (.inl y0), w) else none) := by
  rw [Lm_unf P0 (M0 Ls) sp_218 2]
  rfl
def sp_219 : Nat → Bool := fun q => [0, 26, 32, 47, 56, 64, 65, 86, 95, 103, 106, 116, 130, 140, 146, 155, 165, 171, 184, 202, 205, 215].contains q
set_option maxRecDepth 100000 in
theorem E_219_0 (Ls d : Nat) (p1 : Int) (w : AW) : Lm P0 (M0 Ls) d m_M_takePart 0 [some (.inr (.inr 113)), some (.inl p1), none, none, none] [] w = (if 0 < (rd w 112 8) then some (none, w) else (if 0 ≤ (rd w 112 7) ∧ (rd w 112 7) < 1002 then (if (rd w 114 (rd w 112 7)) = 2 then Lm P0 (M0 Ls) d m_M_takePart 26 [some (.inr (.inr 113)), some (.inl p1), none, none, none] [.inl 1] w else Lm P0 (M0 Ls) d m_M_takePart 26 [some (.inr (.inr 113)), some (.inl p1), none, none, none] [.inl 0] w) else none)) := by
  rw [Lm_unf P0 (M0 Ls) sp_219 14]
  rfl
set_option maxRecDepth 100000 in
theorem E_219_26 (Ls d : Nat) (x1 y0 : Int) (w : AW) : Lm P0 (M0 Ls) d m_M_takePart 26 [some (.inr (.inr 113)), some (.inl x1), none, none, none] [.inl y0] w = Lm P0 (M0 Ls) d m_M_takePart 32 [some (.inr (.inr 113)), some (.inl x1), some (.inl y0), some (.inl (-1)), some (.inl 0)] [] w := by
  rw [Lm_unf P0 (M0 Ls) sp_219 7]
  rfl
set_option maxRecDepth 100000 in
theorem E_219_32 (Ls d : Nat) (x1 x2 x3 x4 : Int) (w : AW) : Lm P0 (M0 Ls) d m_M_takePart 32 [some (.inr (.inr 113)), some (.inl x1), some (.inl x2), some (.inl x3), some (.inl x4)] [] w = (if x4 < 5 then Lk P0 (M0 Ls) d m_M_isWord [.inr (.inr 113), .inl (w32 (16 + x4))] w (fun r_ w_ => Lm P0 (M0 Ls) d m_M_takePart 47 [some (.inr (.inr 113)), some (.inl x1), some (.inl x2), some (.inl x3), some (.inl x4)] (r_.toList ++ []) w_) else (if x3 < 0 then (if x2 = 0 then Lk P0 (M0 Ls) d m_M_isSign [.inr (.inr 113), .inl 40] w (fun r_ w_ => Lm P0 (M0 Ls) d m_M_takePart 86 [some (.inr (.inr 113)), some (.inl x1), some (.inl x2), some (.inl x3), some (.inl x4)] (r_.toList ++ []) w_) else Lm P0 (M0 Ls) d m_M_takePart 106 [some (.inr (.inr 113)), some (.inl x1), some (.inl x2), some (.inl x3), some (.inl x4)] [] w) else Lm P0 (M0 Ls) d m_M_takePart 106 [some (.inr (.inr 113)), some (.inl x1), some (.inl x2), some (.inl x3), some (.inl x4)] [] w)) := by
  rw [Lm_unf P0 (M0 Ls) sp_219 11]
  rfl
set_option maxRecDepth 100000 in
theorem E_219_47 (Ls d : Nat) (x1 x2 x3 x4 y0 : Int) (w : AW) : Lm P0 (M0 Ls) d m_M_takePart 47 [some (.inr (.inr 113)), some (.inl x1), some (.inl x2), some (.inl x3), some (.inl x4)] [.inl y0] w = (if y0 = 0 then Lm P0 (M0 Ls) d m_M_takePart 64 [some (.inr (.inr 113)), some (.inl x1), some (.inl x2), some (.inl x3), some (.inl x4)] [] w else Lk P0 (M0 Ls) d m_M_mayStand [.inr (.inr 113), .inl x4] w (fun r_ w_ => Lm P0 (M0 Ls) d m_M_takePart 56 [some (.inr (.inr 113)), some (.inl x1), some (.inl x2), some (.inl x3), some (.inl x4)] (r_.toList ++ []) w_)) := by
  rw [Lm_unf P0 (M0 Ls) sp_219 5]
  rfl
set_option maxRecDepth 100000 in
theorem E_219_56 (Ls d : Nat) (x1 x2 x3 x4 y0 : Int) (w : AW) : Lm P0 (M0 Ls) d m_M_takePart 56 [some (.inr (.inr 113)), some (.inl x1), some (.inl x2), some (.inl x3), some (.inl x4)] [.inl y0] w = (if y0 = 0 then Lm P0 (M0 Ls) d m_M_takePart 64 [some (.inr (.inr 113)), some (.inl x1), some (.inl x2), some (.inl x3), some (.inl x4)] [] w else Lm P0 (M0 Ls) d m_M_takePart 65 [some (.inr (.inr 113)), some (.inl x1), some (.inl x2), some (.inl x3), some (.inl x4)] [.inl x4] w) := by
  rw [Lm_unf P0 (M0 Ls) sp_219 5]
  rfl
set_option maxRecDepth 100000 in
theorem E_219_64 (Ls d : Nat) (x1 x2 x3 x4 : Int) (w : AW) : Lm P0 (M0 Ls) d m_M_takePart 64 [some (.inr (.inr 113)), some (.inl x1), some (.inl x2), some (.inl x3), some (.inl x4)] [] w = Lm P0 (M0 Ls) d m_M_takePart 65 [some (.inr (.inr 113)), some (.inl x1), some (.inl x2), some (.inl x3), some (.inl x4)] [.inl x3] w := by
  rw [Lm_unf P0 (M0 Ls) sp_219 3]
  rfl
set_option maxRecDepth 100000 in
theorem E_219_65 (Ls d : Nat) (x1 x2 x3 x4 y0 : Int) (w : AW) : Lm P0 (M0 Ls) d m_M_takePart 65 [some (.inr (.inr 113)), some (.inl x1), some (.inl x2), some (.inl x3), some (.inl x4)] [.inl y0] w = Lm P0 (M0 Ls) d m_M_takePart 32 [some (.inr (.inr 113)), some (.inl x1), some (.inl x2), some (.inl y0), some (.inl (w32 (x4 + 1)))] [] w := by
  rw [Lm_unf P0 (M0 Ls) sp_219 5]
  rfl
set_option maxRecDepth 100000 in
theorem E_219_86 (Ls d : Nat) (x1 x2 x3 x4 y0 : Int) (w : AW) : Lm P0 (M0 Ls) d m_M_takePart 86 [some (.inr (.inr 113)), some (.inl x1), some (.inl x2), some (.inl x3), some (.inl x4)] [.inl y0] w = (if y0 = 0 then Lk P0 (M0 Ls) d m_M_isWord [.inr (.inr 113), .inl 13] w (fun r_ w_ => Lm P0 (M0 Ls) d m_M_takePart 95 [some (.inr (.inr 113)), some (.inl x1), some (.inl x2), some (.inl x3), some (.inl x4)] (r_.toList ++ []) w_) else Lm P0 (M0 Ls) d m_M_takePart 106 [some (.inr (.inr 113)), some (.inl x1), some (.inl x2), some (.inl x3), some (.inl x4)] [] w) := by
  rw [Lm_unf P0 (M0 Ls) sp_219 5]
  rfl
set_option maxRecDepth 100000 in
theorem E_219_95 (Ls d : Nat) (x1 x2 x3 x4 y0 : Int) (w : AW) : Lm P0 (M0 Ls) d m_M_takePart 95 [some (.inr (.inr 113)), some (.inl x1), some (.inl x2), some (.inl x3), some (.inl x4)] [.inl y0] w = (if y0 = 0 then Lk P0 (M0 Ls) d m_M_wrong [.inr (.inr 113), .inl 1] w (fun r_ w_ => Lm P0 (M0 Ls) d m_M_takePart 103 [some (.inr (.inr 113)), some (.inl x1), some (.inl x2), some (.inl x3), some (.inl x4)] (r_.toList ++ []) w_) else Lm P0 (M0 Ls) d m_M_takePart 106 [some (.inr (.inr 113)), some (.inl x1), some (.inl x2), some (.inl x3), some (.inl x4)] [] w) := by
  rw [Lm_unf P0 (M0 Ls) sp_219 5]
  rfl
set_option maxRecDepth 100000 in
theorem E_219_103 (Ls d : Nat) (x1 x2 x3 x4 : Int) (w : AW) : Lm P0 (M0 Ls) d m_M_takePart 103 [some (.inr (.inr 113)), some (.inl x1), some (.inl x2), some (.inl x3), some (.inl x4)] [] w = Lm P0 (M0 Ls) d m_M_takePart 116 [some (.inr (.inr 113)), some (.inl x1), some (.inl x2), some (.inl x3), some (.inl x4)] [] w := by
  rw [Lm_unf P0 (M0 Ls) sp_219 3]
  rfl
set_option maxRecDepth 100000 in
theorem E_219_106 (Ls d : Nat) (x1 x2 x3 x4 : Int) (w : AW) : Lm P0 (M0 Ls) d m_M_takePart 106 [some (.inr (.inr 113)), some (.inl x1), some (.inl x2), some (.inl x3), some (.inl x4)] [] w = (if x1 = 5 then Lk P0 (M0 Ls) d m_M_wrong [.inr (.inr 113), .inl 5] w (fun r_ w_ => Lm P0 (M0 Ls) d m_M_takePart 116 [some (.inr (.inr 113)), some (.inl x1), some (.inl x2), some (.inl x3), some (.inl x4)] (r_.toList ++ []) w_) else Lm P0 (M0 Ls) d m_M_takePart 116 [some (.inr (.inr 113)), some (.inl x1), some (.inl x2), some (.inl x3), some (.inl x4)] [] w) := by
  rw [Lm_unf P0 (M0 Ls) sp_219 7]
  rfl
set_option maxRecDepth 100000 in
theorem E_219_116 (Ls d : Nat) (x1 x2 x3 x4 : Int) (w : AW) : Lm P0 (M0 Ls) d m_M_takePart 116 [some (.inr (.inr 113)), some (.inl x1), some (.inl x2), some (.inl x3), some (.inl x4)] [] w = (if 0 < (rd w 112 8) then some (none, w) else Lk P0 (M0 Ls) d m_M_hasWord [.inr (.inr 113), .inl 13] w (fun r_ w_ => Lm P0 (M0 Ls) d m_M_takePart 130 [some (.inr (.inr 113)), some (.inl x1), some (.inl x2), some (.inl x3), some (.inl x4)] (r_.toList ++ []) w_)) := by
  rw [Lm_unf P0 (M0 Ls) sp_219 7]
  rfl
set_option maxRecDepth 100000 in
theorem E_219_130 (Ls d : Nat) (x1 x2 x3 x4 y0 : Int) (w : AW) : Lm P0 (M0 Ls) d m_M_takePart 130 [some (.inr (.inr 113)), some (.inl x1), some (.inl x2), some (.inl x3), some (.inl x4)] [.inl y0] w = (if y0 = 0 then Lk P0 (M0 Ls) d m_M_hasSign [.inr (.inr 113), .inl 40] w (fun r_ w_ => Lm P0 (M0 Ls) d m_M_takePart 155 [some (.inr (.inr 113)), some (.inl x1), some (.inl x2), some (.inl x3), some (.inl x4)] (r_.toList ++ []) w_) else Lk P0 (M0 Ls) d m_M_takePart [.inr (.inr 113), .inl (w32 (x1 + 1))] w (fun r_ w_ => Lm P0 (M0 Ls) d m_M_takePart 140 [some (.inr (.inr 113)), some (.inl x1), some (.inl x2), some (.inl x3), some (.inl x4)] (r_.toList ++ []) w_)) := by
  rw [Lm_unf P0 (M0 Ls) sp_219 7]
  rfl
set_option maxRecDepth 100000 in
theorem E_219_140 (Ls d : Nat) (x1 x2 x3 x4 : Int) (w : AW) : Lm P0 (M0 Ls) d m_M_takePart 140 [some (.inr (.inr 113)), some (.inl x1), some (.inl x2), some (.inl x3), some (.inl x4)] [] w = Lk P0 (M0 Ls) d m_M_emit [.inr (.inr 113), .inl 3, .inl 0] w (fun r_ w_ => Lm P0 (M0 Ls) d m_M_takePart 146 [some (.inr (.inr 113)), some (.inl x1), some (.inl x2), some (.inl x3), some (.inl x4)] (r_.toList ++ []) w_) := by
  rw [Lm_unf P0 (M0 Ls) sp_219 5]
  rfl
set_option maxRecDepth 100000 in
theorem E_219_146 (Ls d : Nat) (x1 x2 x3 x4 : Int) (w : AW) : Lm P0 (M0 Ls) d m_M_takePart 146 [some (.inr (.inr 113)), some (.inl x1), some (.inl x2), some (.inl x3), some (.inl x4)] [] w = Lm P0 (M0 Ls) d m_M_takePart 215 [some (.inr (.inr 113)), some (.inl x1), some (.inl x2), some (.inl x3), some (.inl x4)] [] w := by
  rw [Lm_unf P0 (M0 Ls) sp_219 3]
  rfl
set_option maxRecDepth 100000 in
theorem E_219_155 (Ls d : Nat) (x1 x2 x3 x4 y0 : Int) (w : AW) : Lm P0 (M0 Ls) d m_M_takePart 155 [some (.inr (.inr 113)), some (.inl x1), some (.inl x2), some (.inl x3), some (.inl x4)] [.inl y0] w = (if y0 = 0 then (if x2 = 0 then Lm P0 (M0 Ls) d m_M_takePart 184 [some (.inr (.inr 113)), some (.inl x1), some (.inl x2), some (.inl x3), some (.inl x4)] [.inl 2, .inr (.inr 113)] w else Lm P0 (M0 Ls) d m_M_takePart 184 [some (.inr (.inr 113)), some (.inl x1), some (.inl x2), some (.inl x3), some (.inl x4)] [.inl 1, .inr (.inr 113)] w) else Lk P0 (M0 Ls) d m_M_all [.inr (.inr 113), .inl (w32 (x1 + 1))] w (fun r_ w_ => Lm P0 (M0 Ls) d m_M_takePart 165 [some (.inr (.inr 113)), some (.inl x1), some (.inl x2), some (.inl x3), some (.inl x4)] (r_.toList ++ []) w_)) := by
  rw [Lm_unf P0 (M0 Ls) sp_219 8]
  rfl
set_option maxRecDepth 100000 in
theorem E_219_165 (Ls d : Nat) (x1 x2 x3 x4 : Int) (w : AW) : Lm P0 (M0 Ls) d m_M_takePart 165 [some (.inr (.inr 113)), some (.inl x1), some (.inl x2), some (.inl x3), some (.inl x4)] [] w = Lk P0 (M0 Ls) d m_M_takeSign [.inr (.inr 113), .inl 41] w (fun r_ w_ => Lm P0 (M0 Ls) d m_M_takePart 171 [some (.inr (.inr 113)), some (.inl x1), some (.inl x2), some (.inl x3), some (.inl x4)] (r_.toList ++ []) w_) := by
  rw [Lm_unf P0 (M0 Ls) sp_219 4]
  rfl
set_option maxRecDepth 100000 in
theorem E_219_171 (Ls d : Nat) (x1 x2 x3 x4 : Int) (w : AW) : Lm P0 (M0 Ls) d m_M_takePart 171 [some (.inr (.inr 113)), some (.inl x1), some (.inl x2), some (.inl x3), some (.inl x4)] [] w = Lm P0 (M0 Ls) d m_M_takePart 215 [some (.inr (.inr 113)), some (.inl x1), some (.inl x2), some (.inl x3), some (.inl x4)] [] w := by
  rw [Lm_unf P0 (M0 Ls) sp_219 3]
  rfl
set_option maxRecDepth 100000 in
theorem E_219_184 (Ls d : Nat) (x1 x2 x3 x4 y0 : Int) (w : AW) : Lm P0 (M0 Ls) d m_M_takePart 184 [some (.inr (.inr 113)), some (.inl x1), some (.inl x2), some (.inl x3), some (.inl x4)] [.inl y0, .inr (.inr 113)] w = (if x2 = 0 then Lm P0 (M0 Ls) d m_M_takePart 202 [some (.inr (.inr 113)), some (.inl x1), some (.inl x2), some (.inl x3), some (.inl x4)] [.inl x3, .inl y0, .inr (.inr 113)] w else (if 0 ≤ (rd w 112 7) ∧ (rd w 112 7) < 1002 then Lm P0 (M0 Ls) d m_M_takePart 202 [some (.inr (.inr 113)), some (.inl x1), some (.inl x2), some (.inl x3), some (.inl x4)] [.inl (w32 (rd w 116 (rd w 112 7))), .inl y0, .inr (.inr 113)] w else none)) := by
  rw [Lm_unf P0 (M0 Ls) sp_219 11]
  rfl
set_option maxRecDepth 100000 in
theorem E_219_202 (Ls d : Nat) (x1 x2 x3 x4 y0 y1 : Int) (w : AW) : Lm P0 (M0 Ls) d m_M_takePart 202 [some (.inr (.inr 113)), some (.inl x1), some (.inl x2), some (.inl x3), some (.inl x4)] [.inl y0, .inl y1, .inr (.inr 113)] w = Lk P0 (M0 Ls) d m_M_emit [.inr (.inr 113), .inl y1, .inl y0] w (fun r_ w_ => Lm P0 (M0 Ls) d m_M_takePart 205 [some (.inr (.inr 113)), some (.inl x1), some (.inl x2), some (.inl x3), some (.inl x4)] (r_.toList ++ []) w_) := by
  rw [Lm_unf P0 (M0 Ls) sp_219 2]
  rfl
set_option maxRecDepth 100000 in
theorem E_219_205 (Ls d : Nat) (x1 x2 x3 x4 : Int) (w : AW) : Lm P0 (M0 Ls) d m_M_takePart 205 [some (.inr (.inr 113)), some (.inl x1), some (.inl x2), some (.inl x3), some (.inl x4)] [] w = Lm P0 (M0 Ls) d m_M_takePart 215 [some (.inr (.inr 113)), some (.inl x1), some (.inl x2), some (.inl x3), some (.inl x4)] [] (wC w 112 7 (w32 ((rd w 112 7) + 1))) := by
  rw [Lm_unf P0 (M0 Ls) sp_219 8]
  rfl
set_option maxRecDepth 100000 in
theorem E_219_215 (Ls d : Nat) (x1 x2 x3 x4 : Int) (w : AW) : Lm P0 (M0 Ls) d m_M_takePart 215 [some (.inr (.inr 113)), some (.inl x1), some (.inl x2), some (.inl x3), some (.inl x4)] [] w = some (none, w) := by
  rw [Lm_unf P0 (M0 Ls) sp_219 2]
  rfl
