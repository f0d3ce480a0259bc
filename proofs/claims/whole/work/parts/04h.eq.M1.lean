def sp_220 : Nat → Bool := fun q => [0, 4, 33, 64, 100, 133, 134].contains q
set_option maxRecDepth 100000 in
theorem E_220_0 (Ls d : Nat) (p1 : Int) (w : AW) : Lm P0 (M0 Ls) d m_M_worthAt 0 [some (.inr (.inr 113)), some (.inl p1), none, none, none] [] w = Lm P0 (M0 Ls) d m_M_worthAt 4 [some (.inr (.inr 113)), some (.inl p1), some (.inl 0), some (.inl p1), none] [] w := by
  rw [Lm_unf P0 (M0 Ls) sp_220 6]
  rfl
set_option maxRecDepth 100000 in
theorem E_220_4 (Ls d : Nat) (x1 x2 x3 : Int) (u4 : Option AV) (w : AW) : Lm P0 (M0 Ls) d m_M_worthAt 4 [some (.inr (.inr 113)), some (.inl x1), some (.inl x2), some (.inl x3), u4] [] w = (if 0 ≤ x3 ∧ x3 < 6600 then (if (rd w 119 x3) = 0 then some (some (.inl (rd w 122 0)), w) else (if 0 ≤ x3 ∧ x3 < 6600 then (if (rd w 119 x3) = 1 then Lm P0 (M0 Ls) d m_M_worthAt 33 [some (.inr (.inr 113)), some (.inl x1), some (.inl x2), some (.inl x3), some (.inl (rd w 119 x3))] [] w else (if (rd w 119 x3) = 2 then Lm P0 (M0 Ls) d m_M_worthAt 33 [some (.inr (.inr 113)), some (.inl x1), some (.inl x2), some (.inl x3), some (.inl (rd w 119 x3))] [] w else (if (rd w 119 x3) = 3 then (if 0 ≤ (w32 (x2 - 1)) ∧ (w32 (x2 - 1)) < 1100 then (if (rd w 122 (w32 (x2 - 1))) = 0 then Lm P0 (M0 Ls) d m_M_worthAt 100 [some (.inr (.inr 113)), some (.inl x1), some (.inl x2), some (.inl x3), some (.inl (rd w 119 x3))] [.inl 1, .inl (w32 (x2 - 1)), .inr (.inr 123)] w else Lm P0 (M0 Ls) d m_M_worthAt 100 [some (.inr (.inr 113)), some (.inl x1), some (.inl x2), some (.inl x3), some (.inl (rd w 119 x3))] [.inl 0, .inl (w32 (x2 - 1)), .inr (.inr 123)] w) else none) else (if 0 ≤ (w32 ((w32 (x2 + (-1))) - 1)) ∧ (w32 ((w32 (x2 + (-1))) - 1)) < 1100 then (if 0 ≤ (w32 (x2 + (-1))) ∧ (w32 (x2 + (-1))) < 1100 then Lk P0 (M0 Ls) d m_M_both [.inl (rd w 119 x3), .inl (rd w 122 (w32 ((w32 (x2 + (-1))) - 1))), .inl (rd w 122 (w32 (x2 + (-1))))] w (fun r_ w_ => Lm P0 (M0 Ls) d m_M_worthAt 133 [some (.inr (.inr 113)), some (.inl x1), some (.inl (w32 (x2 + (-1)))), some (.inl x3), some (.inl (rd w 119 x3))] (r_.toList ++ [.inl (w32 ((w32 (x2 + (-1))) - 1)), .inr (.inr 123)]) w_) else none) else none)))) else none)) else none) := by
  rw [Lm_unf P0 (M0 Ls) sp_220 38]
  rfl
set_option maxRecDepth 100000 in
theorem E_220_33 (Ls d : Nat) (x1 x2 x3 x4 : Int) (w : AW) : Lm P0 (M0 Ls) d m_M_worthAt 33 [some (.inr (.inr 113)), some (.inl x1), some (.inl x2), some (.inl x3), some (.inl x4)] [] w = (if x4 = 1 then (if 0 ≤ x3 ∧ x3 < 6600 then Lm P0 (M0 Ls) d m_M_worthAt 64 [some (.inr (.inr 113)), some (.inl x1), some (.inl x2), some (.inl x3), some (.inl x4)] [.inl (rd w 120 x3), .inl x2, .inr (.inr 123)] w else none) else (if 0 ≤ x3 ∧ x3 < 6600 then (if 0 ≤ (rd w 120 x3) ∧ (rd w 120 x3) < 5 then Lm P0 (M0 Ls) d m_M_worthAt 64 [some (.inr (.inr 113)), some (.inl x1), some (.inl x2), some (.inl x3), some (.inl x4)] [.inl (rd w 121 (rd w 120 x3)), .inl x2, .inr (.inr 123)] w else none) else none)) := by
  rw [Lm_unf P0 (M0 Ls) sp_220 15]
  rfl
set_option maxRecDepth 100000 in
theorem E_220_64 (Ls d : Nat) (x1 x2 x3 x4 y0 y1 : Int) (w : AW) : Lm P0 (M0 Ls) d m_M_worthAt 64 [some (.inr (.inr 113)), some (.inl x1), some (.inl x2), some (.inl x3), some (.inl x4)] [.inl y0, .inl y1, .inr (.inr 123)] w = (if 0 ≤ y1 ∧ y1 < 1100 then Lm P0 (M0 Ls) d m_M_worthAt 134 [some (.inr (.inr 113)), some (.inl x1), some (.inl (w32 (x2 + 1))), some (.inl x3), some (.inl x4)] [] (wC w 122 y1 y0) else none) := by
  rw [Lm_unf P0 (M0 Ls) sp_220 5]
  rfl
set_option maxRecDepth 100000 in
theorem E_220_100 (Ls d : Nat) (x1 x2 x3 x4 y0 y1 : Int) (w : AW) : Lm P0 (M0 Ls) d m_M_worthAt 100 [some (.inr (.inr 113)), some (.inl x1), some (.inl x2), some (.inl x3), some (.inl x4)] [.inl y0, .inl y1, .inr (.inr 123)] w = (if 0 ≤ y1 ∧ y1 < 1100 then Lm P0 (M0 Ls) d m_M_worthAt 134 [some (.inr (.inr 113)), some (.inl x1), some (.inl x2), some (.inl x3), some (.inl x4)] [] (wC w 122 y1 y0) else none) := by
  rw [Lm_unf P0 (M0 Ls) sp_220 4]
  rfl
set_option maxRecDepth 100000 in
theorem E_220_133 (Ls d : Nat) (x1 x2 x3 x4 y0 y1 : Int) (w : AW) : Lm P0 (M0 Ls) d m_M_worthAt 133 [some (.inr (.inr 113)), some (.inl x1), some (.inl x2), some (.inl x3), some (.inl x4)] [.inl y0, .inl y1, .inr (.inr 123)] w = (if 0 ≤ y1 ∧ y1 < 1100 then Lm P0 (M0 Ls) d m_M_worthAt 134 [some (.inr (.inr 113)), some (.inl x1), some (.inl x2), some (.inl x3), some (.inl x4)] [] (wC w 122 y1 y0) else none) := by
  rw [Lm_unf P0 (M0 Ls) sp_220 3]
  rfl
set_option maxRecDepth 100000 in
theorem E_220_134 (Ls d : Nat) (x1 x2 x3 x4 : Int) (w : AW) : Lm P0 (M0 Ls) d m_M_worthAt 134 [some (.inr (.inr 113)), some (.inl x1), some (.inl x2), some (.inl x3), some (.inl x4)] [] w = Lm P0 (M0 Ls) d m_M_worthAt 4 [some (.inr (.inr 113)), some (.inl x1), some (.inl x2), some (.inl (w32 (x3 + 1))), some (.inl x4)] [] w := by
  rw [Lm_unf P0 (M0 Ls) sp_220 4]
  rfl
def sp_221 : Nat → Bool := fun q => [0, 62, 73, 86, 87, 96, 101].contains q
set_option maxRecDepth 100000 in
theorem E_221_0 (Ls d : Nat) (p1 p2 p3 : Int) (w : AW) : Lm P0 (M0 Ls) d m_M_both 0 [some (.inl p1), some (.inl p2), some (.inl p3)] [] w = (if p1 = 4 then some (some (.inl (w32 (p2 + p3))), w) else (if p1 = 5 then some (some (.inl (w32 (p2 - p3))), w) else (if p1 = 6 then some (some (.inl (w32 (p2 * p3))), w) else (if p1 = 7 then (if p2 < p3 then Lm P0 (M0 Ls) d m_M_both 62 [some (.inl p1), some (.inl p2), some (.inl p3)] [.inl 1] w else Lm P0 (M0 Ls) d m_M_both 62 [some (.inl p1), some (.inl p2), some (.inl p3)] [.inl 0] w) else (if p1 = 8 then (if p2 = p3 then Lm P0 (M0 Ls) d m_M_both 73 [some (.inl p1), some (.inl p2), some (.inl p3)] [.inl 1] w else Lm P0 (M0 Ls) d m_M_both 73 [some (.inl p1), some (.inl p2), some (.inl p3)] [.inl 0] w) else (if p1 = 9 then (if p2 = 0 then Lm P0 (M0 Ls) d m_M_both 86 [some (.inl p1), some (.inl p2), some (.inl p3)] [] w else (if p3 = 0 then Lm P0 (M0 Ls) d m_M_both 86 [some (.inl p1), some (.inl p2), some (.inl p3)] [] w else Lm P0 (M0 Ls) d m_M_both 87 [some (.inl p1), some (.inl p2), some (.inl p3)] [.inl 1] w)) else (if p2 = 0 then (if p3 = 0 then Lm P0 (M0 Ls) d m_M_both 101 [some (.inl p1), some (.inl p2), some (.inl p3)] [.inl 0] w else Lm P0 (M0 Ls) d m_M_both 96 [some (.inl p1), some (.inl p2), some (.inl p3)] [] w) else Lm P0 (M0 Ls) d m_M_both 96 [some (.inl p1), some (.inl p2), some (.inl p3)] [] w))))))) := by
  rw [Lm_unf P0 (M0 Ls) sp_221 10]
  rfl
set_option maxRecDepth 100000 in
theorem E_221_62 (Ls d : Nat) (x0 x1 x2 y0 : Int) (w : AW) : Lm P0 (M0 Ls) d m_M_both 62 [some (.inl x0), some (.inl x1), some (.inl x2)] [.inl y0] w = some (some (.inl y0), w) := by
  rw [Lm_unf P0 (M0 Ls) sp_221 2]
  rfl
set_option maxRecDepth 100000 in
theorem E_221_73 (Ls d : Nat) (x0 x1 x2 y0 : Int) (w : AW) : Lm P0 (M0 Ls) d m_M_both 73 [some (.inl x0), some (.inl x1), some (.inl x2)] [.inl y0] w = some (some (.inl y0), w) := by
  rw [Lm_unf P0 (M0 Ls) sp_221 2]
  rfl
set_option maxRecDepth 100000 in
theorem E_221_86 (Ls d : Nat) (x0 x1 x2 : Int) (w : AW) : Lm P0 (M0 Ls) d m_M_both 86 [some (.inl x0), some (.inl x1), some (.inl x2)] [] w = Lm P0 (M0 Ls) d m_M_both 87 [some (.inl x0), some (.inl x1), some (.inl x2)] [.inl 0] w := by
  rw [Lm_unf P0 (M0 Ls) sp_221 3]
  rfl
set_option maxRecDepth 100000 in
theorem E_221_87 (Ls d : Nat) (x0 x1 x2 y0 : Int) (w : AW) : Lm P0 (M0 Ls) d m_M_both 87 [some (.inl x0), some (.inl x1), some (.inl x2)] [.inl y0] w = some (some (.inl y0), w) := by
  rw [Lm_unf P0 (M0 Ls) sp_221 2]
  rfl
set_option maxRecDepth 100000 in
theorem E_221_96 (Ls d : Nat) (x0 x1 x2 : Int) (w : AW) : Lm P0 (M0 Ls) d m_M_both 96 [some (.inl x0), some (.inl x1), some (.inl x2)] [] w = Lm P0 (M0 Ls) d m_M_both 101 [some (.inl x0), some (.inl x1), some (.inl x2)] [.inl 1] w := by
  rw [Lm_unf P0 (M0 Ls) sp_221 4]
  rfl
set_option maxRecDepth 100000 in
theorem E_221_101 (Ls d : Nat) (x0 x1 x2 y0 : Int) (w : AW) : Lm P0 (M0 Ls) d m_M_both 101 [some (.inl x0), some (.inl x1), some (.inl x2)] [.inl y0] w = some (some (.inl y0), w) := by
  rw [Lm_unf P0 (M0 Ls) sp_221 2]
  rfl
def sp_222 : Nat → Bool := fun q => [0, 9, 20, 44, 69].contains q
set_option maxRecDepth 100000 in
theorem E_222_0 (Ls d : Nat) (w : AW) : Lm P0 (M0 Ls) d m_M_draft 0 [some (.inr (.inr 113)), none] [] w = Lk P0 (M0 Ls) d m_M_cutAll [.inr (.inr 113)] (wC w 112 0 0) (fun r_ w_ => Lm P0 (M0 Ls) d m_M_draft 9 [some (.inr (.inr 113)), none] (r_.toList ++ []) w_) := by
  rw [Lm_unf P0 (M0 Ls) sp_222 6]
  rfl
set_option maxRecDepth 100000 in
theorem E_222_9 (Ls d : Nat) (w : AW) : Lm P0 (M0 Ls) d m_M_draft 9 [some (.inr (.inr 113)), none] [] w = Lk P0 (M0 Ls) d m_M_items [.inr (.inr 113), .inl 0, .inl 0] (wC w 112 21 0) (fun r_ w_ => Lm P0 (M0 Ls) d m_M_draft 20 [some (.inr (.inr 113)), none] (r_.toList ++ []) w_) := by
  rw [Lm_unf P0 (M0 Ls) sp_222 8]
  rfl
set_option maxRecDepth 100000 in
theorem E_222_20 (Ls d : Nat) (w : AW) : Lm P0 (M0 Ls) d m_M_draft 20 [some (.inr (.inr 113)), none] [] w = (if (rd w 112 8) = 0 then (if 0 ≤ (rd w 112 7) ∧ (rd w 112 7) < 1002 then (if (rd w 114 (rd w 112 7)) = 0 then Lm P0 (M0 Ls) d m_M_draft 44 [some (.inr (.inr 113)), none] [] w else Lk P0 (M0 Ls) d m_M_wrong [.inr (.inr 113), .inl 1] w (fun r_ w_ => Lm P0 (M0 Ls) d m_M_draft 44 [some (.inr (.inr 113)), none] (r_.toList ++ []) w_)) else none) else Lm P0 (M0 Ls) d m_M_draft 44 [some (.inr (.inr 113)), none] [] w) := by
  rw [Lm_unf P0 (M0 Ls) sp_222 13]
  rfl
set_option maxRecDepth 100000 in
theorem E_222_44 (Ls d : Nat) (w : AW) : Lm P0 (M0 Ls) d m_M_draft 44 [some (.inr (.inr 113)), none] [] w = (if 0 < (rd w 112 8) then some (some (.inl (rd w 112 8)), w) else Lm P0 (M0 Ls) d m_M_draft 69 [some (.inr (.inr 113)), some (.inl 0)] [] (wC w 118 54 (rd w 112 21))) := by
  rw [Lm_unf P0 (M0 Ls) sp_222 13]
  rfl
set_option maxRecDepth 100000 in
theorem E_222_69 (Ls d : Nat) (x1 : Int) (w : AW) : Lm P0 (M0 Ls) d m_M_draft 69 [some (.inr (.inr 113)), some (.inl x1)] [] w = (if x1 < (rd w 112 21) then (if 0 ≤ x1 ∧ x1 < 200 then (if 0 ≤ (w32 (55 + x1)) ∧ (w32 (55 + x1)) < 1980 then Lm P0 (M0 Ls) d m_M_draft 69 [some (.inr (.inr 113)), some (.inl (w32 (x1 + 1)))] [] (wC w 118 (w32 (55 + x1)) (rd w 123 x1)) else none) else none) else some (some (.inl 0), w)) := by
  rw [Lm_unf P0 (M0 Ls) sp_222 18]
  rfl
def sp_223 : Nat → Bool := fun q => [0, 15, 52].contains q
set_option maxRecDepth 100000 in
theorem E_223_0 (Ls d : Nat) (p1 : Int) (w : AW) : Lm P0 (M0 Ls) d m_M_lays 0 [some (.inr (.inr 113)), some (.inl p1)] [] w = (if (rd w 112 21) = 200 then Lk P0 (M0 Ls) d m_M_wrong [.inr (.inr 113), .inl 5] w (fun r_ w_ => Lm P0 (M0 Ls) d m_M_lays 15 [some (.inr (.inr 113)), some (.inl p1)] (r_.toList ++ []) w_) else Lm P0 (M0 Ls) d m_M_lays 15 [some (.inr (.inr 113)), some (.inl p1)] [] w) := by
  rw [Lm_unf P0 (M0 Ls) sp_223 8]
  rfl
set_option maxRecDepth 100000 in
theorem E_223_15 (Ls d : Nat) (x1 : Int) (w : AW) : Lm P0 (M0 Ls) d m_M_lays 15 [some (.inr (.inr 113)), some (.inl x1)] [] w = (if (rd w 112 8) = 0 then (if 0 ≤ (rd w 112 21) ∧ (rd w 112 21) < 200 then Lm P0 (M0 Ls) d m_M_lays 52 [some (.inr (.inr 113)), some (.inl x1)] [] (wC (wC (wC w 123 (rd w 112 21) x1) 112 21 (w32 ((rd (wC w 123 (rd w 112 21) x1) 112 21) + 1))) 112 7 (w32 ((rd (wC (wC w 123 (rd w 112 21) x1) 112 21 (w32 ((rd (wC w 123 (rd w 112 21) x1) 112 21) + 1))) 112 7) + 1))) else none) else Lm P0 (M0 Ls) d m_M_lays 52 [some (.inr (.inr 113)), some (.inl x1)] [] w) := by
  rw [Lm_unf P0 (M0 Ls) sp_223 23]
  rfl
set_option maxRecDepth 100000 in
theorem E_223_52 (Ls d : Nat) (x1 : Int) (w : AW) : Lm P0 (M0 Ls) d m_M_lays 52 [some (.inr (.inr 113)), some (.inl x1)] [] w = some (none, w) := by
  rw [Lm_unf P0 (M0 Ls) sp_223 2]
  rfl
def sp_224 : Nat → Bool := fun q => [0, 2, 31, 44, 53, 61, 69, 72, 77, 111, 119, 122, 136, 139, 166, 169, 179, 187, 190, 200, 203].contains q
set_option maxRecDepth 100000 in
theorem E_224_0 (Ls d : Nat) (p1 p2 : Int) (w : AW) : Lm P0 (M0 Ls) d m_M_items 0 [some (.inr (.inr 113)), some (.inl p1), some (.inl p2), none, none] [] w = Lm P0 (M0 Ls) d m_M_items 2 [some (.inr (.inr 113)), some (.inl p1), some (.inl p2), some (.inl 1), none] [] w := by
  rw [Lm_unf P0 (M0 Ls) sp_224 4]
  rfl
set_option maxRecDepth 100000 in
theorem E_224_2 (Ls d : Nat) (x1 x2 x3 : Int) (u4 : Option AV) (w : AW) : Lm P0 (M0 Ls) d m_M_items 2 [some (.inr (.inr 113)), some (.inl x1), some (.inl x2), some (.inl x3), u4] [] w = (if (rd w 112 8) = 0 then (if x3 = 0 then Lm P0 (M0 Ls) d m_M_items 203 [some (.inr (.inr 113)), some (.inl x1), some (.inl x2), some (.inl x3), u4] [] w else (if 0 ≤ (rd w 112 7) ∧ (rd w 112 7) < 1002 then (if (rd w 114 (rd w 112 7)) = 2 then Lm P0 (M0 Ls) d m_M_items 31 [some (.inr (.inr 113)), some (.inl x1), some (.inl x2), some (.inl x3), u4] [.inl 1] w else Lm P0 (M0 Ls) d m_M_items 31 [some (.inr (.inr 113)), some (.inl x1), some (.inl x2), some (.inl x3), u4] [.inl 0] w) else none)) else Lm P0 (M0 Ls) d m_M_items 203 [some (.inr (.inr 113)), some (.inl x1), some (.inl x2), some (.inl x3), u4] [] w) := by
  rw [Lm_unf P0 (M0 Ls) sp_224 16]
  rfl
set_option maxRecDepth 100000 in
theorem E_224_31 (Ls d : Nat) (x1 x2 x3 y0 : Int) (u4 : Option AV) (w : AW) : Lm P0 (M0 Ls) d m_M_items 31 [some (.inr (.inr 113)), some (.inl x1), some (.inl x2), some (.inl x3), u4] [.inl y0] w = (if y0 = 0 then Lk P0 (M0 Ls) d m_M_isWord [.inr (.inr 113), .inl 21] w (fun r_ w_ => Lm P0 (M0 Ls) d m_M_items 44 [some (.inr (.inr 113)), some (.inl x1), some (.inl x2), some (.inl x3), some (.inl y0)] (r_.toList ++ []) w_) else Lm P0 (M0 Ls) d m_M_items 72 [some (.inr (.inr 113)), some (.inl x1), some (.inl x2), some (.inl x3), some (.inl y0)] [] w) := by
  rw [Lm_unf P0 (M0 Ls) sp_224 7]
  rfl
set_option maxRecDepth 100000 in
theorem E_224_44 (Ls d : Nat) (x1 x2 x3 x4 y0 : Int) (w : AW) : Lm P0 (M0 Ls) d m_M_items 44 [some (.inr (.inr 113)), some (.inl x1), some (.inl x2), some (.inl x3), some (.inl x4)] [.inl y0] w = (if y0 = 0 then Lk P0 (M0 Ls) d m_M_isWord [.inr (.inr 113), .inl 22] w (fun r_ w_ => Lm P0 (M0 Ls) d m_M_items 53 [some (.inr (.inr 113)), some (.inl x1), some (.inl x2), some (.inl x3), some (.inl x4)] (r_.toList ++ []) w_) else Lm P0 (M0 Ls) d m_M_items 72 [some (.inr (.inr 113)), some (.inl x1), some (.inl x2), some (.inl x3), some (.inl x4)] [] w) := by
  rw [Lm_unf P0 (M0 Ls) sp_224 5]
  rfl
set_option maxRecDepth 100000 in
theorem E_224_53 (Ls d : Nat) (x1 x2 x3 x4 y0 : Int) (w : AW) : Lm P0 (M0 Ls) d m_M_items 53 [some (.inr (.inr 113)), some (.inl x1), some (.inl x2), some (.inl x3), some (.inl x4)] [.inl y0] w = (if y0 = 0 then Lk P0 (M0 Ls) d m_M_isWord [.inr (.inr 113), .inl 4] w (fun r_ w_ => Lm P0 (M0 Ls) d m_M_items 61 [some (.inr (.inr 113)), some (.inl x1), some (.inl x2), some (.inl x3), some (.inl x4)] (r_.toList ++ []) w_) else Lm P0 (M0 Ls) d m_M_items 72 [some (.inr (.inr 113)), some (.inl x1), some (.inl x2), some (.inl x3), some (.inl x4)] [] w) := by
  rw [Lm_unf P0 (M0 Ls) sp_224 5]
  rfl
set_option maxRecDepth 100000 in
theorem E_224_61 (Ls d : Nat) (x1 x2 x3 x4 y0 : Int) (w : AW) : Lm P0 (M0 Ls) d m_M_items 61 [some (.inr (.inr 113)), some (.inl x1), some (.inl x2), some (.inl x3), some (.inl x4)] [.inl y0] w = (if y0 = 0 then Lk P0 (M0 Ls) d m_M_isWord [.inr (.inr 113), .inl 5] w (fun r_ w_ => Lm P0 (M0 Ls) d m_M_items 69 [some (.inr (.inr 113)), some (.inl x1), some (.inl x2), some (.inl x3), some (.inl x4)] (r_.toList ++ []) w_) else Lm P0 (M0 Ls) d m_M_items 72 [some (.inr (.inr 113)), some (.inl x1), some (.inl x2), some (.inl x3), some (.inl x4)] [] w) := by
  rw [Lm_unf P0 (M0 Ls) sp_224 5]
  rfl
set_option maxRecDepth 100000 in
theorem E_224_69 (Ls d : Nat) (x1 x2 x3 x4 y0 : Int) (w : AW) : Lm P0 (M0 Ls) d m_M_items 69 [some (.inr (.inr 113)), some (.inl x1), some (.inl x2), some (.inl x3), some (.inl x4)] [.inl y0] w = (if y0 = 0 then Lm P0 (M0 Ls) d m_M_items 77 [some (.inr (.inr 113)), some (.inl x1), some (.inl x2), some (.inl x3), some (.inl x4)] [.inl 0] w else Lm P0 (M0 Ls) d m_M_items 72 [some (.inr (.inr 113)), some (.inl x1), some (.inl x2), some (.inl x3), some (.inl x4)] [] w) := by
  rw [Lm_unf P0 (M0 Ls) sp_224 4]
  rfl
set_option maxRecDepth 100000 in
theorem E_224_72 (Ls d : Nat) (x1 x2 x3 x4 : Int) (w : AW) : Lm P0 (M0 Ls) d m_M_items 72 [some (.inr (.inr 113)), some (.inl x1), some (.inl x2), some (.inl x3), some (.inl x4)] [] w = Lm P0 (M0 Ls) d m_M_items 77 [some (.inr (.inr 113)), some (.inl x1), some (.inl x2), some (.inl x3), some (.inl x4)] [.inl 1] w := by
  rw [Lm_unf P0 (M0 Ls) sp_224 4]
  rfl
set_option maxRecDepth 100000 in
theorem E_224_77 (Ls d : Nat) (x1 x2 x3 x4 y0 : Int) (w : AW) : Lm P0 (M0 Ls) d m_M_items 77 [some (.inr (.inr 113)), some (.inl x1), some (.inl x2), some (.inl x3), some (.inl x4)] [.inl y0] w = (if y0 = 0 then Lm P0 (M0 Ls) d m_M_items 122 [some (.inr (.inr 113)), some (.inl x1), some (.inl x2), some (.inl y0), some (.inl x4)] [] w else (if x4 = 0 then Lm P0 (M0 Ls) d m_M_items 122 [some (.inr (.inr 113)), some (.inl x1), some (.inl x2), some (.inl y0), some (.inl x4)] [] w else (if 0 ≤ (rd w 112 7) ∧ (rd w 112 7) < 1002 then Lk P0 (M0 Ls) d m_M_within [.inl (w32 ((w32 (rd w 116 (rd w 112 7))) + x2)), .inl 0, .inl (w32 ((rd w 118 0) - 1))] w (fun r_ w_ => Lm P0 (M0 Ls) d m_M_items 111 [some (.inr (.inr 113)), some (.inl x1), some (.inl x2), some (.inl y0), some (.inl x4)] (r_.toList ++ []) w_) else none))) := by
  rw [Lm_unf P0 (M0 Ls) sp_224 22]
  rfl
set_option maxRecDepth 100000 in
theorem E_224_111 (Ls d : Nat) (x1 x2 x3 x4 y0 : Int) (w : AW) : Lm P0 (M0 Ls) d m_M_items 111 [some (.inr (.inr 113)), some (.inl x1), some (.inl x2), some (.inl x3), some (.inl x4)] [.inl y0] w = (if y0 = 0 then Lk P0 (M0 Ls) d m_M_wrong [.inr (.inr 113), .inl 4] w (fun r_ w_ => Lm P0 (M0 Ls) d m_M_items 119 [some (.inr (.inr 113)), some (.inl x1), some (.inl x2), some (.inl x3), some (.inl x4)] (r_.toList ++ []) w_) else Lm P0 (M0 Ls) d m_M_items 122 [some (.inr (.inr 113)), some (.inl x1), some (.inl x2), some (.inl x3), some (.inl x4)] [] w) := by
  rw [Lm_unf P0 (M0 Ls) sp_224 5]
  rfl
set_option maxRecDepth 100000 in
theorem E_224_119 (Ls d : Nat) (x1 x2 x3 x4 : Int) (w : AW) : Lm P0 (M0 Ls) d m_M_items 119 [some (.inr (.inr 113)), some (.inl x1), some (.inl x2), some (.inl x3), some (.inl x4)] [] w = Lm P0 (M0 Ls) d m_M_items 200 [some (.inr (.inr 113)), some (.inl x1), some (.inl x2), some (.inl x3), some (.inl x4)] [] w := by
  rw [Lm_unf P0 (M0 Ls) sp_224 3]
  rfl
set_option maxRecDepth 100000 in
theorem E_224_122 (Ls d : Nat) (x1 x2 x3 x4 : Int) (w : AW) : Lm P0 (M0 Ls) d m_M_items 122 [some (.inr (.inr 113)), some (.inl x1), some (.inl x2), some (.inl x3), some (.inl x4)] [] w = (if x3 = 0 then Lm P0 (M0 Ls) d m_M_items 139 [some (.inr (.inr 113)), some (.inl x1), some (.inl x2), some (.inl x3), some (.inl x4)] [] w else (if 4 < x1 then Lk P0 (M0 Ls) d m_M_wrong [.inr (.inr 113), .inl 5] w (fun r_ w_ => Lm P0 (M0 Ls) d m_M_items 136 [some (.inr (.inr 113)), some (.inl x1), some (.inl x2), some (.inl x3), some (.inl x4)] (r_.toList ++ []) w_) else Lm P0 (M0 Ls) d m_M_items 139 [some (.inr (.inr 113)), some (.inl x1), some (.inl x2), some (.inl x3), some (.inl x4)] [] w)) := by
  rw [Lm_unf P0 (M0 Ls) sp_224 9]
  rfl
set_option maxRecDepth 100000 in
theorem E_224_136 (Ls d : Nat) (x1 x2 x3 x4 : Int) (w : AW) : Lm P0 (M0 Ls) d m_M_items 136 [some (.inr (.inr 113)), some (.inl x1), some (.inl x2), some (.inl x3), some (.inl x4)] [] w = Lm P0 (M0 Ls) d m_M_items 200 [some (.inr (.inr 113)), some (.inl x1), some (.inl x2), some (.inl x3), some (.inl x4)] [] w := by
  rw [Lm_unf P0 (M0 Ls) sp_224 3]
  rfl
set_option maxRecDepth 100000 in
theorem E_224_139 (Ls d : Nat) (x1 x2 x3 x4 : Int) (w : AW) : Lm P0 (M0 Ls) d m_M_items 139 [some (.inr (.inr 113)), some (.inl x1), some (.inl x2), some (.inl x3), some (.inl x4)] [] w = (if x3 = 0 then Lm P0 (M0 Ls) d m_M_items 169 [some (.inr (.inr 113)), some (.inl x1), some (.inl x2), some (.inl x3), some (.inl x4)] [] w else (if x4 = 0 then Lm P0 (M0 Ls) d m_M_items 169 [some (.inr (.inr 113)), some (.inl x1), some (.inl x2), some (.inl x3), some (.inl x4)] [] w else (if 0 ≤ (rd w 112 7) ∧ (rd w 112 7) < 1002 then Lk P0 (M0 Ls) d m_M_lays [.inr (.inr 113), .inl (w32 ((w32 (1 + (w32 (rd w 116 (rd w 112 7))))) + x2))] w (fun r_ w_ => Lm P0 (M0 Ls) d m_M_items 166 [some (.inr (.inr 113)), some (.inl x1), some (.inl x2), some (.inl x3), some (.inl x4)] (r_.toList ++ []) w_) else none))) := by
  rw [Lm_unf P0 (M0 Ls) sp_224 17]
  rfl
set_option maxRecDepth 100000 in
theorem E_224_166 (Ls d : Nat) (x1 x2 x3 x4 : Int) (w : AW) : Lm P0 (M0 Ls) d m_M_items 166 [some (.inr (.inr 113)), some (.inl x1), some (.inl x2), some (.inl x3), some (.inl x4)] [] w = Lm P0 (M0 Ls) d m_M_items 200 [some (.inr (.inr 113)), some (.inl x1), some (.inl x2), some (.inl x3), some (.inl x4)] [] w := by
  rw [Lm_unf P0 (M0 Ls) sp_224 3]
  rfl
set_option maxRecDepth 100000 in
theorem E_224_169 (Ls d : Nat) (x1 x2 x3 x4 : Int) (w : AW) : Lm P0 (M0 Ls) d m_M_items 169 [some (.inr (.inr 113)), some (.inl x1), some (.inl x2), some (.inl x3), some (.inl x4)] [] w = (if x3 = 0 then Lm P0 (M0 Ls) d m_M_items 190 [some (.inr (.inr 113)), some (.inl x1), some (.inl x2), some (.inl x3), some (.inl x4)] [] w else Lk P0 (M0 Ls) d m_M_isWord [.inr (.inr 113), .inl 21] w (fun r_ w_ => Lm P0 (M0 Ls) d m_M_items 179 [some (.inr (.inr 113)), some (.inl x1), some (.inl x2), some (.inl x3), some (.inl x4)] (r_.toList ++ []) w_)) := by
  rw [Lm_unf P0 (M0 Ls) sp_224 6]
  rfl
set_option maxRecDepth 100000 in
theorem E_224_179 (Ls d : Nat) (x1 x2 x3 x4 y0 : Int) (w : AW) : Lm P0 (M0 Ls) d m_M_items 179 [some (.inr (.inr 113)), some (.inl x1), some (.inl x2), some (.inl x3), some (.inl x4)] [.inl y0] w = (if y0 = 0 then Lm P0 (M0 Ls) d m_M_items 190 [some (.inr (.inr 113)), some (.inl x1), some (.inl x2), some (.inl x3), some (.inl x4)] [] w else Lk P0 (M0 Ls) d m_M_lays [.inr (.inr 113), .inl 0] w (fun r_ w_ => Lm P0 (M0 Ls) d m_M_items 187 [some (.inr (.inr 113)), some (.inl x1), some (.inl x2), some (.inl x3), some (.inl x4)] (r_.toList ++ []) w_)) := by
  rw [Lm_unf P0 (M0 Ls) sp_224 5]
  rfl
set_option maxRecDepth 100000 in
theorem E_224_187 (Ls d : Nat) (x1 x2 x3 x4 : Int) (w : AW) : Lm P0 (M0 Ls) d m_M_items 187 [some (.inr (.inr 113)), some (.inl x1), some (.inl x2), some (.inl x3), some (.inl x4)] [] w = Lm P0 (M0 Ls) d m_M_items 200 [some (.inr (.inr 113)), some (.inl x1), some (.inl x2), some (.inl x3), some (.inl x4)] [] w := by
  rw [Lm_unf P0 (M0 Ls) sp_224 3]
  rfl
set_option maxRecDepth 100000 in
theorem E_224_190 (Ls d : Nat) (x1 x2 x3 x4 : Int) (w : AW) : Lm P0 (M0 Ls) d m_M_items 190 [some (.inr (.inr 113)), some (.inl x1), some (.inl x2), some (.inl x3), some (.inl x4)] [] w = (if x3 = 0 then Lm P0 (M0 Ls) d m_M_items 200 [some (.inr (.inr 113)), some (.inl x1), some (.inl x2), some (.inl x3), some (.inl x4)] [] w else Lk P0 (M0 Ls) d m_M_readGroup [.inr (.inr 113), .inl x1, .inl x2] w (fun r_ w_ => Lm P0 (M0 Ls) d m_M_items 200 [some (.inr (.inr 113)), some (.inl x1), some (.inl x2), some (.inl x3), some (.inl x4)] (r_.toList ++ []) w_)) := by
  rw [Lm_unf P0 (M0 Ls) sp_224 7]
  rfl
set_option maxRecDepth 100000 in
theorem E_224_200 (Ls d : Nat) (x1 x2 x3 x4 : Int) (w : AW) : Lm P0 (M0 Ls) d m_M_items 200 [some (.inr (.inr 113)), some (.inl x1), some (.inl x2), some (.inl x3), some (.inl x4)] [] w = Lm P0 (M0 Ls) d m_M_items 2 [some (.inr (.inr 113)), some (.inl x1), some (.inl x2), some (.inl x3), some (.inl x4)] [] w := by
  rw [Lm_unf P0 (M0 Ls) sp_224 3]
  rfl
set_option maxRecDepth 100000 in
theorem E_224_203 (Ls d : Nat) (x1 x2 x3 : Int) (u4 : Option AV) (w : AW) : Lm P0 (M0 Ls) d m_M_items 203 [some (.inr (.inr 113)), some (.inl x1), some (.inl x2), some (.inl x3), u4] [] w = some (none, w) := by
  rw [Lm_unf P0 (M0 Ls) sp_224 2]
  rfl
def sp_225 : Nat → Bool := fun q => [0, 6, 12, 20, 42, 53, 56, 64, 89, 92, 107, 133, 139, 150, 155].contains q
set_option maxRecDepth 100000 in
theorem E_225_0 (Ls d : Nat) (p1 p2 : Int) (w : AW) : Lm P0 (M0 Ls) d m_M_readGroup 0 [some (.inr (.inr 113)), some (.inl p1), some (.inl p2), none, none, none, none, none, none] [] w = Lk P0 (M0 Ls) d m_M_isWord [.inr (.inr 113), .inl 22] w (fun r_ w_ => Lm P0 (M0 Ls) d m_M_readGroup 6 [some (.inr (.inr 113)), some (.inl p1), some (.inl p2), none, none, none, none, none, none] (r_.toList ++ []) w_) := by
  rw [Lm_unf P0 (M0 Ls) sp_225 4]
  rfl
set_option maxRecDepth 100000 in
theorem E_225_6 (Ls d : Nat) (x1 x2 y0 : Int) (w : AW) : Lm P0 (M0 Ls) d m_M_readGroup 6 [some (.inr (.inr 113)), some (.inl x1), some (.inl x2), none, none, none, none, none, none] [.inl y0] w = Lk P0 (M0 Ls) d m_M_isWord [.inr (.inr 113), .inl 4] w (fun r_ w_ => Lm P0 (M0 Ls) d m_M_readGroup 12 [some (.inr (.inr 113)), some (.inl x1), some (.inl x2), some (.inl y0), none, none, none, none, none] (r_.toList ++ []) w_) := by
  rw [Lm_unf P0 (M0 Ls) sp_225 5]
  rfl
set_option maxRecDepth 100000 in
theorem E_225_12 (Ls d : Nat) (x1 x2 x3 y0 : Int) (w : AW) : Lm P0 (M0 Ls) d m_M_readGroup 12 [some (.inr (.inr 113)), some (.inl x1), some (.inl x2), some (.inl x3), none, none, none, none, none] [.inl y0] w = (if y0 = 0 then Lm P0 (M0 Ls) d m_M_readGroup 20 [some (.inr (.inr 113)), some (.inl x1), some (.inl x2), some (.inl x3), none, none, none, none, none] [.inl (-1)] w else Lm P0 (M0 Ls) d m_M_readGroup 20 [some (.inr (.inr 113)), some (.inl x1), some (.inl x2), some (.inl x3), none, none, none, none, none] [.inl 1] w) := by
  rw [Lm_unf P0 (M0 Ls) sp_225 5]
  rfl
set_option maxRecDepth 100000 in
theorem E_225_20 (Ls d : Nat) (x1 x2 x3 y0 : Int) (w : AW) : Lm P0 (M0 Ls) d m_M_readGroup 20 [some (.inr (.inr 113)), some (.inl x1), some (.inl x2), some (.inl x3), none, none, none, none, none] [.inl y0] w = (if x3 = 0 then Lm P0 (M0 Ls) d m_M_readGroup 42 [some (.inr (.inr 113)), some (.inl x1), some (.inl x2), some (.inl x3), some (.inl y0), none, none, none, none] [.inl 0, .inr (.inr 113)] (wC w 112 7 (w32 ((rd w 112 7) + 1))) else Lm P0 (M0 Ls) d m_M_readGroup 42 [some (.inr (.inr 113)), some (.inl x1), some (.inl x2), some (.inl x3), some (.inl y0), none, none, none, none] [.inl 1, .inr (.inr 113)] (wC w 112 7 (w32 ((rd w 112 7) + 1)))) := by
  rw [Lm_unf P0 (M0 Ls) sp_225 14]
  rfl
set_option maxRecDepth 100000 in
theorem E_225_42 (Ls d : Nat) (x1 x2 x3 x4 y0 : Int) (w : AW) : Lm P0 (M0 Ls) d m_M_readGroup 42 [some (.inr (.inr 113)), some (.inl x1), some (.inl x2), some (.inl x3), some (.inl x4), none, none, none, none] [.inl y0, .inr (.inr 113)] w = (if x3 = 0 then Lm P0 (M0 Ls) d m_M_readGroup 53 [some (.inr (.inr 113)), some (.inl x1), some (.inl x2), some (.inl x3), some (.inl x4), none, none, none, none] [.inl 24, .inl y0, .inr (.inr 113)] w else Lm P0 (M0 Ls) d m_M_readGroup 53 [some (.inr (.inr 113)), some (.inl x1), some (.inl x2), some (.inl x3), some (.inl x4), none, none, none, none] [.inl 99, .inl y0, .inr (.inr 113)] w) := by
  rw [Lm_unf P0 (M0 Ls) sp_225 6]
  rfl
set_option maxRecDepth 100000 in
theorem E_225_53 (Ls d : Nat) (x1 x2 x3 x4 y0 y1 : Int) (w : AW) : Lm P0 (M0 Ls) d m_M_readGroup 53 [some (.inr (.inr 113)), some (.inl x1), some (.inl x2), some (.inl x3), some (.inl x4), none, none, none, none] [.inl y0, .inl y1, .inr (.inr 113)] w = Lk P0 (M0 Ls) d m_M_takeNumber [.inr (.inr 113), .inl y1, .inl y0] w (fun r_ w_ => Lm P0 (M0 Ls) d m_M_readGroup 56 [some (.inr (.inr 113)), some (.inl x1), some (.inl x2), some (.inl x3), some (.inl x4), none, none, none, none] (r_.toList ++ []) w_) := by
  rw [Lm_unf P0 (M0 Ls) sp_225 2]
  rfl
set_option maxRecDepth 100000 in
theorem E_225_56 (Ls d : Nat) (x1 x2 x3 x4 y0 : Int) (w : AW) : Lm P0 (M0 Ls) d m_M_readGroup 56 [some (.inr (.inr 113)), some (.inl x1), some (.inl x2), some (.inl x3), some (.inl x4), none, none, none, none] [.inl y0] w = Lk P0 (M0 Ls) d m_M_takeSign [.inr (.inr 113), .inl 40] w (fun r_ w_ => Lm P0 (M0 Ls) d m_M_readGroup 64 [some (.inr (.inr 113)), some (.inl x1), some (.inl x2), some (.inl x3), some (.inl x4), some (.inl y0), none, none, none] (r_.toList ++ []) w_) := by
  rw [Lm_unf P0 (M0 Ls) sp_225 5]
  rfl
set_option maxRecDepth 100000 in
theorem E_225_64 (Ls d : Nat) (x1 x2 x3 x4 x5 : Int) (w : AW) : Lm P0 (M0 Ls) d m_M_readGroup 64 [some (.inr (.inr 113)), some (.inl x1), some (.inl x2), some (.inl x3), some (.inl x4), some (.inl x5), none, none, none] [] w = (if x3 = 0 then Lm P0 (M0 Ls) d m_M_readGroup 89 [some (.inr (.inr 113)), some (.inl x1), some (.inl x2), some (.inl x3), some (.inl x4), some (.inl x5), some (.inl (rd w 112 21)), none, none] [.inl (w32 (x2 + (w32 (x4 * x5)))), .inl (w32 (x1 + 1)), .inr (.inr 113)] w else Lm P0 (M0 Ls) d m_M_readGroup 89 [some (.inr (.inr 113)), some (.inl x1), some (.inl x2), some (.inl x3), some (.inl x4), some (.inl x5), some (.inl (rd w 112 21)), none, none] [.inl x2, .inl (w32 (x1 + 1)), .inr (.inr 113)] w) := by
  rw [Lm_unf P0 (M0 Ls) sp_225 16]
  rfl
set_option maxRecDepth 100000 in
theorem E_225_89 (Ls d : Nat) (x1 x2 x3 x4 x5 x6 y0 y1 : Int) (w : AW) : Lm P0 (M0 Ls) d m_M_readGroup 89 [some (.inr (.inr 113)), some (.inl x1), some (.inl x2), some (.inl x3), some (.inl x4), some (.inl x5), some (.inl x6), none, none] [.inl y0, .inl y1, .inr (.inr 113)] w = Lk P0 (M0 Ls) d m_M_items [.inr (.inr 113), .inl y1, .inl y0] w (fun r_ w_ => Lm P0 (M0 Ls) d m_M_readGroup 92 [some (.inr (.inr 113)), some (.inl x1), some (.inl x2), some (.inl x3), some (.inl x4), some (.inl x5), some (.inl x6), none, none] (r_.toList ++ []) w_) := by
  rw [Lm_unf P0 (M0 Ls) sp_225 2]
  rfl
set_option maxRecDepth 100000 in
theorem E_225_92 (Ls d : Nat) (x1 x2 x3 x4 x5 x6 : Int) (w : AW) : Lm P0 (M0 Ls) d m_M_readGroup 92 [some (.inr (.inr 113)), some (.inl x1), some (.inl x2), some (.inl x3), some (.inl x4), some (.inl x5), some (.inl x6), none, none] [] w = Lk P0 (M0 Ls) d m_M_isSign [.inr (.inr 113), .inl 41] w (fun r_ w_ => Lm P0 (M0 Ls) d m_M_readGroup 107 [some (.inr (.inr 113)), some (.inl x1), some (.inl x2), some (.inl x3), some (.inl x4), some (.inl x5), some (.inl x6), some (.inl (w32 ((rd w 112 21) - x6))), none] (r_.toList ++ []) w_) := by
  rw [Lm_unf P0 (M0 Ls) sp_225 9]
  rfl
set_option maxRecDepth 100000 in
theorem E_225_107 (Ls d : Nat) (x1 x2 x3 x4 x5 x6 x7 y0 : Int) (w : AW) : Lm P0 (M0 Ls) d m_M_readGroup 107 [some (.inr (.inr 113)), some (.inl x1), some (.inl x2), some (.inl x3), some (.inl x4), some (.inl x5), some (.inl x6), some (.inl x7), none] [.inl y0] w = (if y0 = 0 then Lm P0 (M0 Ls) d m_M_readGroup 133 [some (.inr (.inr 113)), some (.inl x1), some (.inl x2), some (.inl x3), some (.inl x4), some (.inl x5), some (.inl x6), some (.inl x7), none] [] w else (if x3 = 0 then Lm P0 (M0 Ls) d m_M_readGroup 133 [some (.inr (.inr 113)), some (.inl x1), some (.inl x2), some (.inl x3), some (.inl x4), some (.inl x5), some (.inl x6), some (.inl x7), none] [] w else (if 200 < (w32 (x6 + (w32 (x5 * x7)))) then Lk P0 (M0 Ls) d m_M_wrong [.inr (.inr 113), .inl 5] w (fun r_ w_ => Lm P0 (M0 Ls) d m_M_readGroup 133 [some (.inr (.inr 113)), some (.inl x1), some (.inl x2), some (.inl x3), some (.inl x4), some (.inl x5), some (.inl x6), some (.inl x7), none] (r_.toList ++ []) w_) else Lm P0 (M0 Ls) d m_M_readGroup 133 [some (.inr (.inr 113)), some (.inl x1), some (.inl x2), some (.inl x3), some (.inl x4), some (.inl x5), some (.inl x6), some (.inl x7), none] [] w))) := by
  rw [Lm_unf P0 (M0 Ls) sp_225 14]
  rfl
set_option maxRecDepth 100000 in
theorem E_225_133 (Ls d : Nat) (x1 x2 x3 x4 x5 x6 x7 : Int) (w : AW) : Lm P0 (M0 Ls) d m_M_readGroup 133 [some (.inr (.inr 113)), some (.inl x1), some (.inl x2), some (.inl x3), some (.inl x4), some (.inl x5), some (.inl x6), some (.inl x7), none] [] w = Lk P0 (M0 Ls) d m_M_takeSign [.inr (.inr 113), .inl 41] w (fun r_ w_ => Lm P0 (M0 Ls) d m_M_readGroup 139 [some (.inr (.inr 113)), some (.inl x1), some (.inl x2), some (.inl x3), some (.inl x4), some (.inl x5), some (.inl x6), some (.inl x7), none] (r_.toList ++ []) w_) := by
  rw [Lm_unf P0 (M0 Ls) sp_225 4]
  rfl
set_option maxRecDepth 100000 in
theorem E_225_139 (Ls d : Nat) (x1 x2 x3 x4 x5 x6 x7 : Int) (w : AW) : Lm P0 (M0 Ls) d m_M_readGroup 139 [some (.inr (.inr 113)), some (.inl x1), some (.inl x2), some (.inl x3), some (.inl x4), some (.inl x5), some (.inl x6), some (.inl x7), none] [] w = (if 0 < (rd w 112 8) then Lm P0 (M0 Ls) d m_M_readGroup 150 [some (.inr (.inr 113)), some (.inl x1), some (.inl x2), some (.inl x3), some (.inl x4), some (.inl x5), some (.inl x6), some (.inl x7), none] [] w else (if x3 = 0 then Lm P0 (M0 Ls) d m_M_readGroup 150 [some (.inr (.inr 113)), some (.inl x1), some (.inl x2), some (.inl x3), some (.inl x4), some (.inl x5), some (.inl x6), some (.inl x7), none] [] w else Lm P0 (M0 Ls) d m_M_readGroup 155 [some (.inr (.inr 113)), some (.inl x1), some (.inl x2), some (.inl x3), some (.inl x4), some (.inl x5), some (.inl x6), some (.inl x7), some (.inl x7)] [] w)) := by
  rw [Lm_unf P0 (M0 Ls) sp_225 9]
  rfl
set_option maxRecDepth 100000 in
theorem E_225_150 (Ls d : Nat) (x1 x2 x3 x4 x5 x6 x7 : Int) (w : AW) : Lm P0 (M0 Ls) d m_M_readGroup 150 [some (.inr (.inr 113)), some (.inl x1), some (.inl x2), some (.inl x3), some (.inl x4), some (.inl x5), some (.inl x6), some (.inl x7), none] [] w = some (none, w) := by
  rw [Lm_unf P0 (M0 Ls) sp_225 2]
  rfl
set_option maxRecDepth 100000 in
theorem E_225_155 (Ls d : Nat) (x1 x2 x3 x4 x5 x6 x7 x8 : Int) (w : AW) : Lm P0 (M0 Ls) d m_M_readGroup 155 [some (.inr (.inr 113)), some (.inl x1), some (.inl x2), some (.inl x3), some (.inl x4), some (.inl x5), some (.inl x6), some (.inl x7), some (.inl x8)] [] w = (if x8 < (w32 (x5 * x7)) then (if 0 ≤ (w32 ((w32 (x6 + x8)) - x7)) ∧ (w32 ((w32 (x6 + x8)) - x7)) < 200 then (if 0 ≤ (w32 (x6 + x8)) ∧ (w32 (x6 + x8)) < 200 then Lm P0 (M0 Ls) d m_M_readGroup 155 [some (.inr (.inr 113)), some (.inl x1), some (.inl x2), some (.inl x3), some (.inl x4), some (.inl x5), some (.inl x6), some (.inl x7), some (.inl (w32 (x8 + 1)))] [] (wC w 123 (w32 (x6 + x8)) (rd w 123 (w32 ((w32 (x6 + x8)) - x7)))) else none) else none) else some (none, wC w 112 21 (w32 (x6 + (w32 (x5 * x7)))))) := by
  rw [Lm_unf P0 (M0 Ls) sp_225 23]
  rfl
def sp_226 : Nat → Bool := fun q => [0].contains q
set_option maxRecDepth 100000 in
theorem E_226_0 (Ls d : Nat) (w : AW) : Lm P0 (M0 Ls) d m_M_notes 0 [some (.inr (.inr 113))] [] w = some (some (.inl (rd w 118 0)), w) := by
  rw [Lm_unf P0 (M0 Ls) sp_226 6]
  rfl
def sp_227 : Nat → Bool := fun q => [0].contains q
set_option maxRecDepth 100000 in
theorem E_227_0 (Ls d : Nat) (w : AW) : Lm P0 (M0 Ls) d m_M_meter 0 [some (.inr (.inr 113))] [] w = some (some (.inl (rd w 118 1)), w) := by
  rw [Lm_unf P0 (M0 Ls) sp_227 6]
  rfl
def sp_228 : Nat → Bool := fun q => [0].contains q
set_option maxRecDepth 100000 in
theorem E_228_0 (Ls d : Nat) (w : AW) : Lm P0 (M0 Ls) d m_M_echoes 0 [some (.inr (.inr 113))] [] w = some (some (.inl (rd w 118 2)), w) := by
  rw [Lm_unf P0 (M0 Ls) sp_228 6]
  rfl
def sp_229 : Nat → Bool := fun q => [0].contains q
set_option maxRecDepth 100000 in
theorem E_229_0 (Ls d : Nat) (p1 p2 : Int) (w : AW) : Lm P0 (M0 Ls) d m_M_echoOf 0 [some (.inr (.inr 113)), some (.inl p1), some (.inl p2)] [] w = (if 0 ≤ (w32 ((w32 (3 + (w32 (5 * p1)))) + p2)) ∧ (w32 ((w32 (3 + (w32 (5 * p1)))) + p2)) < 1980 then some (some (.inl (rd w 118 (w32 ((w32 (3 + (w32 (5 * p1)))) + p2)))), w) else none) := by
  rw [Lm_unf P0 (M0 Ls) sp_229 12]
  rfl
def sp_230 : Nat → Bool := fun q => [0].contains q
set_option maxRecDepth 100000 in
theorem E_230_0 (Ls d : Nat) (w : AW) : Lm P0 (M0 Ls) d m_M_beats 0 [some (.inr (.inr 113))] [] w = some (some (.inl (rd w 118 54)), w) := by
  rw [Lm_unf P0 (M0 Ls) sp_230 6]
  rfl
def sp_231 : Nat → Bool := fun q => [0, 9, 24, 41].contains q
set_option maxRecDepth 100000 in
theorem E_231_0 (Ls d : Nat) (p1 : Int) (w : AW) : Lm P0 (M0 Ls) d m_M_sung 0 [some (.inr (.inr 113)), some (.inl p1)] [] w = (if p1 < 0 then Lm P0 (M0 Ls) d m_M_sung 24 [some (.inr (.inr 113)), some (.inl p1)] [] w else Lk P0 (M0 Ls) d m_M_beats [.inr (.inr 113)] w (fun r_ w_ => Lm P0 (M0 Ls) d m_M_sung 9 [some (.inr (.inr 113)), some (.inl p1)] (r_.toList ++ [.inl p1]) w_)) := by
  rw [Lm_unf P0 (M0 Ls) sp_231 6]
  rfl
set_option maxRecDepth 100000 in
theorem E_231_9 (Ls d : Nat) (x1 y0 y1 : Int) (w : AW) : Lm P0 (M0 Ls) d m_M_sung 9 [some (.inr (.inr 113)), some (.inl x1)] [.inl y0, .inl y1] w = (if y1 < y0 then (if 0 ≤ (w32 (55 + x1)) ∧ (w32 (55 + x1)) < 1980 then (if (rd w 118 (w32 (55 + x1))) = 0 then Lm P0 (M0 Ls) d m_M_sung 24 [some (.inr (.inr 113)), some (.inl x1)] [] w else (if 0 ≤ (w32 (55 + x1)) ∧ (w32 (55 + x1)) < 1980 then Lm P0 (M0 Ls) d m_M_sung 41 [some (.inr (.inr 113)), some (.inl x1)] [.inl (w32 ((rd w 118 (w32 (55 + x1))) - 1))] w else none)) else none) else Lm P0 (M0 Ls) d m_M_sung 24 [some (.inr (.inr 113)), some (.inl x1)] [] w) := by
  rw [Lm_unf P0 (M0 Ls) sp_231 18]
  rfl
set_option maxRecDepth 100000 in
theorem E_231_24 (Ls d : Nat) (x1 : Int) (w : AW) : Lm P0 (M0 Ls) d m_M_sung 24 [some (.inr (.inr 113)), some (.inl x1)] [] w = Lm P0 (M0 Ls) d m_M_sung 41 [some (.inr (.inr 113)), some (.inl x1)] [.inl (-2000)] w := by
  rw [Lm_unf P0 (M0 Ls) sp_231 4]
  rfl
set_option maxRecDepth 100000 in
theorem E_231_41 (Ls d : Nat) (x1 y0 : Int) (w : AW) : Lm P0 (M0 Ls) d m_M_sung 41 [some (.inr (.inr 113)), some (.inl x1)] [.inl y0] w = some (some (.inl y0), w) := by
  rw [Lm_unf P0 (M0 Ls) sp_231 2]
  rfl
def sp_232 : Nat → Bool := fun q => [0, 40].contains q
set_option maxRecDepth 100000 in
theorem E_232_0 (Ls d : Nat) (p1 p2 p3 : Int) (w : AW) : Lm P0 (M0 Ls) d m_M_shifted 0 [some (.inl p1), some (.inl p2), some (.inl p3)] [] w = (if p1 = (-2000) then Lm P0 (M0 Ls) d m_M_shifted 40 [some (.inl p1), some (.inl p2), some (.inl p3)] [.inl (-2000)] w else (if p2 = 4 then Lm P0 (M0 Ls) d m_M_shifted 40 [some (.inl p1), some (.inl p2), some (.inl p3)] [.inl (w32 (p1 + p3))] w else (if p2 = 5 then Lm P0 (M0 Ls) d m_M_shifted 40 [some (.inl p1), some (.inl p2), some (.inl p3)] [.inl (w32 (p1 - p3))] w else Lm P0 (M0 Ls) d m_M_shifted 40 [some (.inl p1), some (.inl p2), some (.inl p3)] [.inl (w32 ((w32 (2 * p3)) - p1))] w))) := by
  rw [Lm_unf P0 (M0 Ls) sp_232 16]
  rfl
set_option maxRecDepth 100000 in
theorem E_232_40 (Ls d : Nat) (x0 x1 x2 y0 : Int) (w : AW) : Lm P0 (M0 Ls) d m_M_shifted 40 [some (.inl x0), some (.inl x1), some (.inl x2)] [.inl y0] w = some (some (.inl y0), w) := by
  rw [Lm_unf P0 (M0 Ls) sp_232 2]
  rfl
def sp_233 : Nat → Bool := fun q => [0, 7, 23, 39, 50, 58, 69, 76, 77, 96, 102, 108, 111].contains q
set_option maxRecDepth 100000 in
theorem E_233_0 (Ls d : Nat) (p1 p2 : Int) (w : AW) : Lm P0 (M0 Ls) d m_M_echoed 0 [some (.inr (.inr 113)), some (.inl p1), some (.inl p2), none, none, none] [] w = Lk P0 (M0 Ls) d m_M_echoOf [.inr (.inr 113), .inl p1, .inl 0] w (fun r_ w_ => Lm P0 (M0 Ls) d m_M_echoed 7 [some (.inr (.inr 113)), some (.inl p1), some (.inl p2), none, none, none] (r_.toList ++ [.inl p2]) w_) := by
  rw [Lm_unf P0 (M0 Ls) sp_233 6]
  rfl
set_option maxRecDepth 100000 in
theorem E_233_7 (Ls d : Nat) (x1 x2 y0 y1 : Int) (w : AW) : Lm P0 (M0 Ls) d m_M_echoed 7 [some (.inr (.inr 113)), some (.inl x1), some (.inl x2), none, none, none] [.inl y0, .inl y1] w = (if (w32 (y1 - y0)) < 0 then some (some (.inl (-2000)), w) else Lk P0 (M0 Ls) d m_M_echoOf [.inr (.inr 113), .inl x1, .inl 3] w (fun r_ w_ => Lm P0 (M0 Ls) d m_M_echoed 23 [some (.inr (.inr 113)), some (.inl x1), some (.inl x2), some (.inl (w32 (y1 - y0))), none, none] (r_.toList ++ []) w_)) := by
  rw [Lm_unf P0 (M0 Ls) sp_233 9]
  rfl
set_option maxRecDepth 100000 in
theorem E_233_23 (Ls d : Nat) (x1 x2 x3 y0 : Int) (w : AW) : Lm P0 (M0 Ls) d m_M_echoed 23 [some (.inr (.inr 113)), some (.inl x1), some (.inl x2), some (.inl x3), none, none] [.inl y0] w = (if y0 = 1 then Lm P0 (M0 Ls) d m_M_echoed 50 [some (.inr (.inr 113)), some (.inl x1), some (.inl x2), some (.inl x3), none, none] [.inl (w32 (Int.tdiv x3 2))] w else Lk P0 (M0 Ls) d m_M_echoOf [.inr (.inr 113), .inl x1, .inl 3] w (fun r_ w_ => Lm P0 (M0 Ls) d m_M_echoed 39 [some (.inr (.inr 113)), some (.inl x1), some (.inl x2), some (.inl x3), none, none] (r_.toList ++ []) w_)) := by
  rw [Lm_unf P0 (M0 Ls) sp_233 8]
  rfl
set_option maxRecDepth 100000 in
theorem E_233_39 (Ls d : Nat) (x1 x2 x3 y0 : Int) (w : AW) : Lm P0 (M0 Ls) d m_M_echoed 39 [some (.inr (.inr 113)), some (.inl x1), some (.inl x2), some (.inl x3), none, none] [.inl y0] w = (if y0 = 2 then Lm P0 (M0 Ls) d m_M_echoed 50 [some (.inr (.inr 113)), some (.inl x1), some (.inl x2), some (.inl x3), none, none] [.inl (w32 (2 * x3))] w else Lm P0 (M0 Ls) d m_M_echoed 50 [some (.inr (.inr 113)), some (.inl x1), some (.inl x2), some (.inl x3), none, none] [.inl x3] w) := by
  rw [Lm_unf P0 (M0 Ls) sp_233 8]
  rfl
set_option maxRecDepth 100000 in
theorem E_233_50 (Ls d : Nat) (x1 x2 x3 y0 : Int) (w : AW) : Lm P0 (M0 Ls) d m_M_echoed 50 [some (.inr (.inr 113)), some (.inl x1), some (.inl x2), some (.inl x3), none, none] [.inl y0] w = Lk P0 (M0 Ls) d m_M_echoOf [.inr (.inr 113), .inl x1, .inl 4] w (fun r_ w_ => Lm P0 (M0 Ls) d m_M_echoed 58 [some (.inr (.inr 113)), some (.inl x1), some (.inl x2), some (.inl x3), some (.inl y0), none] (r_.toList ++ []) w_) := by
  rw [Lm_unf P0 (M0 Ls) sp_233 6]
  rfl
set_option maxRecDepth 100000 in
theorem E_233_58 (Ls d : Nat) (x1 x2 x3 x4 y0 : Int) (w : AW) : Lm P0 (M0 Ls) d m_M_echoed 58 [some (.inr (.inr 113)), some (.inl x1), some (.inl x2), some (.inl x3), some (.inl x4), none] [.inl y0] w = (if 0 < y0 then Lk P0 (M0 Ls) d m_M_echoOf [.inr (.inr 113), .inl x1, .inl 4] w (fun r_ w_ => Lm P0 (M0 Ls) d m_M_echoed 69 [some (.inr (.inr 113)), some (.inl x1), some (.inl x2), some (.inl x3), some (.inl x4), none] (r_.toList ++ [.inl x4]) w_) else Lm P0 (M0 Ls) d m_M_echoed 76 [some (.inr (.inr 113)), some (.inl x1), some (.inl x2), some (.inl x3), some (.inl x4), none] [] w) := by
  rw [Lm_unf P0 (M0 Ls) sp_233 7]
  rfl
set_option maxRecDepth 100000 in
theorem E_233_69 (Ls d : Nat) (x1 x2 x3 x4 y0 y1 : Int) (w : AW) : Lm P0 (M0 Ls) d m_M_echoed 69 [some (.inr (.inr 113)), some (.inl x1), some (.inl x2), some (.inl x3), some (.inl x4), none] [.inl y0, .inl y1] w = (if y1 < y0 then Lm P0 (M0 Ls) d m_M_echoed 76 [some (.inr (.inr 113)), some (.inl x1), some (.inl x2), some (.inl x3), some (.inl x4), none] [] w else Lm P0 (M0 Ls) d m_M_echoed 77 [some (.inr (.inr 113)), some (.inl x1), some (.inl x2), some (.inl x3), some (.inl x4), none] [.inl 1] w) := by
  rw [Lm_unf P0 (M0 Ls) sp_233 5]
  rfl
set_option maxRecDepth 100000 in
theorem E_233_76 (Ls d : Nat) (x1 x2 x3 x4 : Int) (w : AW) : Lm P0 (M0 Ls) d m_M_echoed 76 [some (.inr (.inr 113)), some (.inl x1), some (.inl x2), some (.inl x3), some (.inl x4), none] [] w = Lm P0 (M0 Ls) d m_M_echoed 77 [some (.inr (.inr 113)), some (.inl x1), some (.inl x2), some (.inl x3), some (.inl x4), none] [.inl 0] w := by
  rw [Lm_unf P0 (M0 Ls) sp_233 3]
  rfl
set_option maxRecDepth 100000 in
theorem E_233_77 (Ls d : Nat) (x1 x2 x3 x4 y0 : Int) (w : AW) : Lm P0 (M0 Ls) d m_M_echoed 77 [some (.inr (.inr 113)), some (.inl x1), some (.inl x2), some (.inl x3), some (.inl x4), none] [.inl y0] w = (if y0 = 0 then Lk P0 (M0 Ls) d m_M_sung [.inr (.inr 113), .inl x4] w (fun r_ w_ => Lm P0 (M0 Ls) d m_M_echoed 96 [some (.inr (.inr 113)), some (.inl x1), some (.inl x2), some (.inl x3), some (.inl x4), some (.inl y0)] (r_.toList ++ []) w_) else Lm P0 (M0 Ls) d m_M_echoed 111 [some (.inr (.inr 113)), some (.inl x1), some (.inl x2), some (.inl x3), some (.inl x4), some (.inl y0)] [.inl (-2000)] w) := by
  rw [Lm_unf P0 (M0 Ls) sp_233 7]
  rfl
set_option maxRecDepth 100000 in
theorem E_233_96 (Ls d : Nat) (x1 x2 x3 x4 x5 y0 : Int) (w : AW) : Lm P0 (M0 Ls) d m_M_echoed 96 [some (.inr (.inr 113)), some (.inl x1), some (.inl x2), some (.inl x3), some (.inl x4), some (.inl x5)] [.inl y0] w = Lk P0 (M0 Ls) d m_M_echoOf [.inr (.inr 113), .inl x1, .inl 1] w (fun r_ w_ => Lm P0 (M0 Ls) d m_M_echoed 102 [some (.inr (.inr 113)), some (.inl x1), some (.inl x2), some (.inl x3), some (.inl x4), some (.inl x5)] (r_.toList ++ [.inl y0]) w_) := by
  rw [Lm_unf P0 (M0 Ls) sp_233 5]
  rfl
set_option maxRecDepth 100000 in
theorem E_233_102 (Ls d : Nat) (x1 x2 x3 x4 x5 y0 y1 : Int) (w : AW) : Lm P0 (M0 Ls) d m_M_echoed 102 [some (.inr (.inr 113)), some (.inl x1), some (.inl x2), some (.inl x3), some (.inl x4), some (.inl x5)] [.inl y0, .inl y1] w = Lk P0 (M0 Ls) d m_M_echoOf [.inr (.inr 113), .inl x1, .inl 2] w (fun r_ w_ => Lm P0 (M0 Ls) d m_M_echoed 108 [some (.inr (.inr 113)), some (.inl x1), some (.inl x2), some (.inl x3), some (.inl x4), some (.inl x5)] (r_.toList ++ [.inl y0, .inl y1]) w_) := by
  rw [Lm_unf P0 (M0 Ls) sp_233 5]
  rfl
set_option maxRecDepth 100000 in
theorem E_233_108 (Ls d : Nat) (x1 x2 x3 x4 x5 y0 y1 y2 : Int) (w : AW) : Lm P0 (M0 Ls) d m_M_echoed 108 [some (.inr (.inr 113)), some (.inl x1), some (.inl x2), some (.inl x3), some (.inl x4), some (.inl x5)] [.inl y0, .inl y1, .inl y2] w = Lk P0 (M0 Ls) d m_M_shifted [.inl y2, .inl y1, .inl y0] w (fun r_ w_ => Lm P0 (M0 Ls) d m_M_echoed 111 [some (.inr (.inr 113)), some (.inl x1), some (.inl x2), some (.inl x3), some (.inl x4), some (.inl x5)] (r_.toList ++ []) w_) := by
  rw [Lm_unf P0 (M0 Ls) sp_233 2]
  rfl
set_option maxRecDepth 100000 in
theorem E_233_111 (Ls d : Nat) (x1 x2 x3 x4 x5 y0 : Int) (w : AW) : Lm P0 (M0 Ls) d m_M_echoed 111 [some (.inr (.inr 113)), some (.inl x1), some (.inl x2), some (.inl x3), some (.inl x4), some (.inl x5)] [.inl y0] w = some (some (.inl y0), w) := by
  rw [Lm_unf P0 (M0 Ls) sp_233 2]
  rfl
def sp_234 : Nat → Bool := fun q => [0].contains q
set_option maxRecDepth 100000 in
theorem E_234_0 (Ls d : Nat) (p1 p2 p3 p4 : Int) (w : AW) : Lm P0 (M0 Ls) d m_M_breaks 0 [some (.inr (.inr 113)), some (.inl p1), some (.inl p2), some (.inl p3), some (.inl p4)] [] w = some (some (.inl 1), wC (wC (wC (wC w 112 25 p1) 112 26 p2) 112 27 p3) 112 28 p4) := by
  rw [Lm_unf P0 (M0 Ls) sp_234 15]
  rfl
def sp_235 : Nat → Bool := fun q => [0, 56, 80, 91, 98, 100, 113, 154, 159].contains q
set_option maxRecDepth 100000 in
theorem E_235_0 (Ls d : Nat) (p1 p2 : Int) (w : AW) : Lm P0 (M0 Ls) d m_M_isAgainst 0 [some (.inr (.inr 113)), some (.inl p1), some (.inl p2), none, none] [] w = (if p2 = 0 then Lm P0 (M0 Ls) d m_M_isAgainst 98 [some (.inr (.inr 113)), some (.inl p1), some (.inl p2), none, none] [] (wC w 121 0 p1) else (if (rd (wC w 121 0 p1) 124 0) = (-2000) then Lm P0 (M0 Ls) d m_M_isAgainst 98 [some (.inr (.inr 113)), some (.inl p1), some (.inl p2), none, none] [] (wC w 121 0 p1) else (if (rd (wC w 121 0 p1) 125 0) = (-2000) then Lm P0 (M0 Ls) d m_M_isAgainst 98 [some (.inr (.inr 113)), some (.inl p1), some (.inl p2), none, none] [] (wC w 121 0 p1) else Lm P0 (M0 Ls) d m_M_isAgainst 56 [some (.inr (.inr 113)), some (.inl p1), some (.inl p2), some (.inl 0), none] [] (wC (wC w 121 0 p1) 121 2 (w32 ((rd (wC w 121 0 p1) 124 0) - (rd (wC w 121 0 p1) 125 0))))))) := by
  rw [Lm_unf P0 (M0 Ls) sp_235 36]
  rfl
set_option maxRecDepth 100000 in
theorem E_235_56 (Ls d : Nat) (x1 x2 x3 : Int) (w : AW) : Lm P0 (M0 Ls) d m_M_isAgainst 56 [some (.inr (.inr 113)), some (.inl x1), some (.inl x2), some (.inl x3), none] [] w = (if x3 < (rd w 118 48) then (if 0 ≤ (w32 (49 + x3)) ∧ (w32 (49 + x3)) < 1980 then Lk P0 (M0 Ls) d m_M_worthAt [.inr (.inr 113), .inl (rd w 118 (w32 (49 + x3)))] w (fun r_ w_ => Lm P0 (M0 Ls) d m_M_isAgainst 80 [some (.inr (.inr 113)), some (.inl x1), some (.inl x2), some (.inl x3), none] (r_.toList ++ []) w_) else none) else Lm P0 (M0 Ls) d m_M_isAgainst 98 [some (.inr (.inr 113)), some (.inl x1), some (.inl x2), some (.inl x3), none] [] w) := by
  rw [Lm_unf P0 (M0 Ls) sp_235 15]
  rfl
set_option maxRecDepth 100000 in
theorem E_235_80 (Ls d : Nat) (x1 x2 x3 y0 : Int) (w : AW) : Lm P0 (M0 Ls) d m_M_isAgainst 80 [some (.inr (.inr 113)), some (.inl x1), some (.inl x2), some (.inl x3), none] [.inl y0] w = (if y0 = 0 then Lk P0 (M0 Ls) d m_M_breaks [.inr (.inr 113), .inl 0, .inl 0, .inl 0, .inl x3] w (fun r_ w_ => Lm P0 (M0 Ls) d m_M_isAgainst 91 [some (.inr (.inr 113)), some (.inl x1), some (.inl x2), some (.inl x3), none] (r_.toList ++ []) w_) else Lm P0 (M0 Ls) d m_M_isAgainst 56 [some (.inr (.inr 113)), some (.inl x1), some (.inl x2), some (.inl (w32 (x3 + 1))), none] [] w) := by
  rw [Lm_unf P0 (M0 Ls) sp_235 8]
  rfl
set_option maxRecDepth 100000 in
theorem E_235_91 (Ls d : Nat) (x1 x2 x3 y0 : Int) (w : AW) : Lm P0 (M0 Ls) d m_M_isAgainst 91 [some (.inr (.inr 113)), some (.inl x1), some (.inl x2), some (.inl x3), none] [.inl y0] w = (if rok 3 y0 = true then some (some (.inl y0), w) else none) := by
  rw [Lm_unf P0 (M0 Ls) sp_235 2]
  rfl
set_option maxRecDepth 100000 in
theorem E_235_98 (Ls d : Nat) (x1 x2 : Int) (u3 : Option AV) (w : AW) : Lm P0 (M0 Ls) d m_M_isAgainst 98 [some (.inr (.inr 113)), some (.inl x1), some (.inl x2), u3, none] [] w = Lm P0 (M0 Ls) d m_M_isAgainst 100 [some (.inr (.inr 113)), some (.inl x1), some (.inl x2), some (.inl 0), none] [] w := by
  rw [Lm_unf P0 (M0 Ls) sp_235 4]
  rfl
set_option maxRecDepth 100000 in
theorem E_235_100 (Ls d : Nat) (x1 x2 x3 : Int) (u4 : Option AV) (w : AW) : Lm P0 (M0 Ls) d m_M_isAgainst 100 [some (.inr (.inr 113)), some (.inl x1), some (.inl x2), some (.inl x3), u4] [] w = (if x3 < (rd w 112 24) then Lm P0 (M0 Ls) d m_M_isAgainst 113 [some (.inr (.inr 113)), some (.inl x1), some (.inl x2), some (.inl x3), some (.inl (w32 (x3 + 1)))] [] w else some (some (.inl 0), w)) := by
  rw [Lm_unf P0 (M0 Ls) sp_235 10]
  rfl
set_option maxRecDepth 100000 in
theorem E_235_113 (Ls d : Nat) (x1 x2 x3 x4 : Int) (w : AW) : Lm P0 (M0 Ls) d m_M_isAgainst 113 [some (.inr (.inr 113)), some (.inl x1), some (.inl x2), some (.inl x3), some (.inl x4)] [] w = (if x4 < (rd w 112 24) then (if 0 ≤ x3 ∧ x3 < 9 then (if (rd w 124 x3) = (-2000) then Lm P0 (M0 Ls) d m_M_isAgainst 159 [some (.inr (.inr 113)), some (.inl x1), some (.inl x2), some (.inl x3), some (.inl x4)] [] w else (if 0 ≤ x4 ∧ x4 < 9 then (if (rd w 124 x4) = (-2000) then Lm P0 (M0 Ls) d m_M_isAgainst 159 [some (.inr (.inr 113)), some (.inl x1), some (.inl x2), some (.inl x3), some (.inl x4)] [] w else Lk P0 (M0 Ls) d m_M_areAgainst [.inr (.inr 113), .inl x3, .inl x4] w (fun r_ w_ => Lm P0 (M0 Ls) d m_M_isAgainst 154 [some (.inr (.inr 113)), some (.inl x1), some (.inl x2), some (.inl x3), some (.inl x4)] (r_.toList ++ []) w_)) else none)) else none) else Lm P0 (M0 Ls) d m_M_isAgainst 100 [some (.inr (.inr 113)), some (.inl x1), some (.inl x2), some (.inl (w32 (x3 + 1))), some (.inl x4)] [] w) := by
  rw [Lm_unf P0 (M0 Ls) sp_235 21]
  rfl
set_option maxRecDepth 100000 in
theorem E_235_154 (Ls d : Nat) (x1 x2 x3 x4 y0 : Int) (w : AW) : Lm P0 (M0 Ls) d m_M_isAgainst 154 [some (.inr (.inr 113)), some (.inl x1), some (.inl x2), some (.inl x3), some (.inl x4)] [.inl y0] w = (if y0 = 0 then Lm P0 (M0 Ls) d m_M_isAgainst 159 [some (.inr (.inr 113)), some (.inl x1), some (.inl x2), some (.inl x3), some (.inl x4)] [] w else some (some (.inl 1), w)) := by
  rw [Lm_unf P0 (M0 Ls) sp_235 4]
  rfl
set_option maxRecDepth 100000 in
theorem E_235_159 (Ls d : Nat) (x1 x2 x3 x4 : Int) (w : AW) : Lm P0 (M0 Ls) d m_M_isAgainst 159 [some (.inr (.inr 113)), some (.inl x1), some (.inl x2), some (.inl x3), some (.inl x4)] [] w = Lm P0 (M0 Ls) d m_M_isAgainst 113 [some (.inr (.inr 113)), some (.inl x1), some (.inl x2), some (.inl x3), some (.inl (w32 (x4 + 1)))] [] w := by
  rw [Lm_unf P0 (M0 Ls) sp_235 4]
  rfl
def sp_236 : Nat → Bool := fun q => [0, 14].contains q
set_option maxRecDepth 100000 in
theorem E_236_0 (Ls d : Nat) (p1 p2 : Int) (w : AW) : Lm P0 (M0 Ls) d m_M_apart 0 [some (.inl p1), some (.inl p2)] [] w = (if p1 < p2 then Lm P0 (M0 Ls) d m_M_apart 14 [some (.inl p1), some (.inl p2)] [.inl (w32 (p2 - p1))] w else Lm P0 (M0 Ls) d m_M_apart 14 [some (.inl p1), some (.inl p2)] [.inl (w32 (p1 - p2))] w) := by
  rw [Lm_unf P0 (M0 Ls) sp_236 9]
  rfl
set_option maxRecDepth 100000 in
theorem E_236_14 (Ls d : Nat) (x0 x1 y0 : Int) (w : AW) : Lm P0 (M0 Ls) d m_M_apart 14 [some (.inl x0), some (.inl x1)] [.inl y0] w = some (some (.inl y0), w) := by
  rw [Lm_unf P0 (M0 Ls) sp_236 2]
  rfl
def sp_237 : Nat → Bool := fun q => [0, 20, 23, 47, 58, 99, 121, 162, 186, 197].contains q
set_option maxRecDepth 100000 in
theorem E_237_0 (Ls d : Nat) (p1 p2 : Int) (w : AW) : Lm P0 (M0 Ls) d m_M_areAgainst 0 [some (.inr (.inr 113)), some (.inl p1), some (.inl p2), none] [] w = (if 0 ≤ p1 ∧ p1 < 9 then (if 0 ≤ p2 ∧ p2 < 9 then Lk P0 (M0 Ls) d m_M_apart [.inl (rd w 124 p1), .inl (rd w 124 p2)] w (fun r_ w_ => Lm P0 (M0 Ls) d m_M_areAgainst 20 [some (.inr (.inr 113)), some (.inl p1), some (.inl p2), none] (r_.toList ++ [.inl 1, .inr (.inr 122)]) w_) else none) else none) := by
  rw [Lm_unf P0 (M0 Ls) sp_237 13]
  rfl
set_option maxRecDepth 100000 in
theorem E_237_20 (Ls d : Nat) (x1 x2 y0 y1 : Int) (w : AW) : Lm P0 (M0 Ls) d m_M_areAgainst 20 [some (.inr (.inr 113)), some (.inl x1), some (.inl x2), none] [.inl y0, .inl y1, .inr (.inr 122)] w = (if 0 ≤ y1 ∧ y1 < 5 then Lm P0 (M0 Ls) d m_M_areAgainst 23 [some (.inr (.inr 113)), some (.inl x1), some (.inl x2), some (.inl 0)] [] (wC w 121 y1 y0) else none) := by
  rw [Lm_unf P0 (M0 Ls) sp_237 5]
  rfl
set_option maxRecDepth 100000 in
theorem E_237_23 (Ls d : Nat) (x1 x2 x3 : Int) (w : AW) : Lm P0 (M0 Ls) d m_M_areAgainst 23 [some (.inr (.inr 113)), some (.inl x1), some (.inl x2), some (.inl x3)] [] w = (if x3 < (rd w 118 43) then (if 0 ≤ (w32 (44 + x3)) ∧ (w32 (44 + x3)) < 1980 then Lk P0 (M0 Ls) d m_M_worthAt [.inr (.inr 113), .inl (rd w 118 (w32 (44 + x3)))] w (fun r_ w_ => Lm P0 (M0 Ls) d m_M_areAgainst 47 [some (.inr (.inr 113)), some (.inl x1), some (.inl x2), some (.inl x3)] (r_.toList ++ []) w_) else none) else (if (rd w 118 51) = 0 then Lm P0 (M0 Ls) d m_M_areAgainst 99 [some (.inr (.inr 113)), some (.inl x1), some (.inl x2), some (.inl x3)] [] w else (if 0 ≤ x1 ∧ x1 < 9 then (if (rd w 125 x1) = (-2000) then Lm P0 (M0 Ls) d m_M_areAgainst 99 [some (.inr (.inr 113)), some (.inl x1), some (.inl x2), some (.inl x3)] [] w else (if 0 ≤ x2 ∧ x2 < 9 then (if (rd w 125 x2) = (-2000) then Lm P0 (M0 Ls) d m_M_areAgainst 99 [some (.inr (.inr 113)), some (.inl x1), some (.inl x2), some (.inl x3)] [] w else (if 0 ≤ x1 ∧ x1 < 9 then (if 0 ≤ x2 ∧ x2 < 9 then Lk P0 (M0 Ls) d m_M_apart [.inl (rd w 125 x1), .inl (rd w 125 x2)] w (fun r_ w_ => Lm P0 (M0 Ls) d m_M_areAgainst 121 [some (.inr (.inr 113)), some (.inl x1), some (.inl x2), some (.inl x3)] (r_.toList ++ [.inl 3, .inr (.inr 122)]) w_) else none) else none)) else none)) else none))) := by
  rw [Lm_unf P0 (M0 Ls) sp_237 36]
  rfl
set_option maxRecDepth 100000 in
theorem E_237_47 (Ls d : Nat) (x1 x2 x3 y0 : Int) (w : AW) : Lm P0 (M0 Ls) d m_M_areAgainst 47 [some (.inr (.inr 113)), some (.inl x1), some (.inl x2), some (.inl x3)] [.inl y0] w = (if y0 = 0 then Lk P0 (M0 Ls) d m_M_breaks [.inr (.inr 113), .inl x1, .inl x2, .inl 1, .inl x3] w (fun r_ w_ => Lm P0 (M0 Ls) d m_M_areAgainst 58 [some (.inr (.inr 113)), some (.inl x1), some (.inl x2), some (.inl x3)] (r_.toList ++ []) w_) else Lm P0 (M0 Ls) d m_M_areAgainst 23 [some (.inr (.inr 113)), some (.inl x1), some (.inl x2), some (.inl (w32 (x3 + 1)))] [] w) := by
  rw [Lm_unf P0 (M0 Ls) sp_237 8]
  rfl
set_option maxRecDepth 100000 in
theorem E_237_58 (Ls d : Nat) (x1 x2 x3 y0 : Int) (w : AW) : Lm P0 (M0 Ls) d m_M_areAgainst 58 [some (.inr (.inr 113)), some (.inl x1), some (.inl x2), some (.inl x3)] [.inl y0] w = (if rok 3 y0 = true then some (some (.inl y0), w) else none) := by
  rw [Lm_unf P0 (M0 Ls) sp_237 2]
  rfl
set_option maxRecDepth 100000 in
theorem E_237_99 (Ls d : Nat) (x1 x2 x3 : Int) (w : AW) : Lm P0 (M0 Ls) d m_M_areAgainst 99 [some (.inr (.inr 113)), some (.inl x1), some (.inl x2), some (.inl x3)] [] w = some (some (.inl 0), w) := by
  rw [Lm_unf P0 (M0 Ls) sp_237 3]
  rfl
set_option maxRecDepth 100000 in
theorem E_237_121 (Ls d : Nat) (x1 x2 x3 y0 y1 : Int) (w : AW) : Lm P0 (M0 Ls) d m_M_areAgainst 121 [some (.inr (.inr 113)), some (.inl x1), some (.inl x2), some (.inl x3)] [.inl y0, .inl y1, .inr (.inr 122)] w = (if 0 ≤ y1 ∧ y1 < 5 then (if 0 ≤ x1 ∧ x1 < 9 then (if 0 ≤ x1 ∧ x1 < 9 then (if 0 ≤ x2 ∧ x2 < 9 then (if 0 ≤ x2 ∧ x2 < 9 then Lm P0 (M0 Ls) d m_M_areAgainst 162 [some (.inr (.inr 113)), some (.inl x1), some (.inl x2), some (.inl 0)] [] (wC (wC (wC w 121 y1 y0) 121 2 (w32 ((rd (wC w 121 y1 y0) 124 x1) - (rd (wC w 121 y1 y0) 125 x1)))) 121 4 (w32 ((rd (wC (wC w 121 y1 y0) 121 2 (w32 ((rd (wC w 121 y1 y0) 124 x1) - (rd (wC w 121 y1 y0) 125 x1)))) 124 x2) - (rd (wC (wC w 121 y1 y0) 121 2 (w32 ((rd (wC w 121 y1 y0) 124 x1) - (rd (wC w 121 y1 y0) 125 x1)))) 125 x2)))) else none) else none) else none) else none) else none) := by
  rw [Lm_unf P0 (M0 Ls) sp_237 31]
  rfl
set_option maxRecDepth 100000 in
theorem E_237_162 (Ls d : Nat) (x1 x2 x3 : Int) (w : AW) : Lm P0 (M0 Ls) d m_M_areAgainst 162 [some (.inr (.inr 113)), some (.inl x1), some (.inl x2), some (.inl x3)] [] w = (if x3 < (rd w 118 51) then (if 0 ≤ (w32 (52 + x3)) ∧ (w32 (52 + x3)) < 1980 then Lk P0 (M0 Ls) d m_M_worthAt [.inr (.inr 113), .inl (rd w 118 (w32 (52 + x3)))] w (fun r_ w_ => Lm P0 (M0 Ls) d m_M_areAgainst 186 [some (.inr (.inr 113)), some (.inl x1), some (.inl x2), some (.inl x3)] (r_.toList ++ []) w_) else none) else some (some (.inl 0), w)) := by
  rw [Lm_unf P0 (M0 Ls) sp_237 15]
  rfl
set_option maxRecDepth 100000 in
theorem E_237_186 (Ls d : Nat) (x1 x2 x3 y0 : Int) (w : AW) : Lm P0 (M0 Ls) d m_M_areAgainst 186 [some (.inr (.inr 113)), some (.inl x1), some (.inl x2), some (.inl x3)] [.inl y0] w = (if y0 = 0 then Lk P0 (M0 Ls) d m_M_breaks [.inr (.inr 113), .inl x1, .inl x2, .inl 2, .inl x3] w (fun r_ w_ => Lm P0 (M0 Ls) d m_M_areAgainst 197 [some (.inr (.inr 113)), some (.inl x1), some (.inl x2), some (.inl x3)] (r_.toList ++ []) w_) else Lm P0 (M0 Ls) d m_M_areAgainst 162 [some (.inr (.inr 113)), some (.inl x1), some (.inl x2), some (.inl (w32 (x3 + 1)))] [] w) := by
  rw [Lm_unf P0 (M0 Ls) sp_237 8]
  rfl
set_option maxRecDepth 100000 in
theorem E_237_197 (Ls d : Nat) (x1 x2 x3 y0 : Int) (w : AW) : Lm P0 (M0 Ls) d m_M_areAgainst 197 [some (.inr (.inr 113)), some (.inl x1), some (.inl x2), some (.inl x3)] [.inl y0] w = (if rok 3 y0 = true then some (some (.inl y0), w) else none) := by
  rw [Lm_unf P0 (M0 Ls) sp_237 2]
  rfl
def sp_238 : Nat → Bool := fun q => [0, 5, 14].contains q
set_option maxRecDepth 100000 in
theorem E_238_0 (Ls d : Nat) (p1 : Int) (w : AW) : Lm P0 (M0 Ls) d m_M_strongIn 0 [some (.inr (.inr 113)), some (.inl p1)] [] w = Lk P0 (M0 Ls) d m_M_meter [.inr (.inr 113)] w (fun r_ w_ => Lm P0 (M0 Ls) d m_M_strongIn 5 [some (.inr (.inr 113)), some (.inl p1)] (r_.toList ++ [.inl p1]) w_) := by
  rw [Lm_unf P0 (M0 Ls) sp_238 4]
  rfl
set_option maxRecDepth 100000 in
theorem E_238_5 (Ls d : Nat) (x1 y0 y1 : Int) (w : AW) : Lm P0 (M0 Ls) d m_M_strongIn 5 [some (.inr (.inr 113)), some (.inl x1)] [.inl y0, .inl y1] w = if y0 = 0 then none else (if (Int.tmod y1 y0) = 0 then Lm P0 (M0 Ls) d m_M_strongIn 14 [some (.inr (.inr 113)), some (.inl x1)] [.inl 1] w else Lm P0 (M0 Ls) d m_M_strongIn 14 [some (.inr (.inr 113)), some (.inl x1)] [.inl 0] w) := by
  rw [Lm_unf P0 (M0 Ls) sp_238 6]
  rfl
set_option maxRecDepth 100000 in
theorem E_238_14 (Ls d : Nat) (x1 y0 : Int) (w : AW) : Lm P0 (M0 Ls) d m_M_strongIn 14 [some (.inr (.inr 113)), some (.inl x1)] [.inl y0] w = some (some (.inl y0), w) := by
  rw [Lm_unf P0 (M0 Ls) sp_238 2]
  rfl
def sp_239 : Nat → Bool := fun q => [0, 9, 20].contains q
set_option maxRecDepth 100000 in
theorem E_239_0 (Ls d : Nat) (p1 p2 : Int) (w : AW) : Lm P0 (M0 Ls) d m_M_soundOf 0 [some (.inr (.inr 113)), some (.inl p1), some (.inl p2)] [] w = (if p1 = 0 then Lk P0 (M0 Ls) d m_M_sung [.inr (.inr 113), .inl p2] w (fun r_ w_ => Lm P0 (M0 Ls) d m_M_soundOf 9 [some (.inr (.inr 113)), some (.inl p1), some (.inl p2)] (r_.toList ++ []) w_) else Lk P0 (M0 Ls) d m_M_echoed [.inr (.inr 113), .inl (w32 (p1 - 1)), .inl p2] w (fun r_ w_ => Lm P0 (M0 Ls) d m_M_soundOf 20 [some (.inr (.inr 113)), some (.inl p1), some (.inl p2)] (r_.toList ++ []) w_)) := by
  rw [Lm_unf P0 (M0 Ls) sp_239 9]
  rfl
set_option maxRecDepth 100000 in
theorem E_239_9 (Ls d : Nat) (x1 x2 y0 : Int) (w : AW) : Lm P0 (M0 Ls) d m_M_soundOf 9 [some (.inr (.inr 113)), some (.inl x1), some (.inl x2)] [.inl y0] w = Lm P0 (M0 Ls) d m_M_soundOf 20 [some (.inr (.inr 113)), some (.inl x1), some (.inl x2)] [.inl y0] w := by
  rw [Lm_unf P0 (M0 Ls) sp_239 3]
  rfl
set_option maxRecDepth 100000 in
theorem E_239_20 (Ls d : Nat) (x1 x2 y0 : Int) (w : AW) : Lm P0 (M0 Ls) d m_M_soundOf 20 [some (.inr (.inr 113)), some (.inl x1), some (.inl x2)] [.inl y0] w = some (some (.inl y0), w) := by
  rw [Lm_unf P0 (M0 Ls) sp_239 2]
  rfl
def sp_240 : Nat → Bool := fun q => [0, 6, 12, 31, 45, 58, 62].contains q
set_option maxRecDepth 100000 in
theorem E_240_0 (Ls d : Nat) (p1 : Int) (w : AW) : Lm P0 (M0 Ls) d m_M_isBroken 0 [some (.inr (.inr 113)), some (.inl p1), none] [] w = Lk P0 (M0 Ls) d m_M_echoes [.inr (.inr 113)] w (fun r_ w_ => Lm P0 (M0 Ls) d m_M_isBroken 6 [some (.inr (.inr 113)), some (.inl p1), none] (r_.toList ++ [.inl 1, .inr (.inr 113)]) w_) := by
  rw [Lm_unf P0 (M0 Ls) sp_240 5]
  rfl
set_option maxRecDepth 100000 in
theorem E_240_6 (Ls d : Nat) (x1 y0 y1 : Int) (w : AW) : Lm P0 (M0 Ls) d m_M_isBroken 6 [some (.inr (.inr 113)), some (.inl x1), none] [.inl y0, .inl y1, .inr (.inr 113)] w = Lm P0 (M0 Ls) d m_M_isBroken 12 [some (.inr (.inr 113)), some (.inl x1), some (.inl 0)] [] (wC w 112 24 (w32 (y1 + y0))) := by
  rw [Lm_unf P0 (M0 Ls) sp_240 6]
  rfl
set_option maxRecDepth 100000 in
theorem E_240_12 (Ls d : Nat) (x1 x2 : Int) (w : AW) : Lm P0 (M0 Ls) d m_M_isBroken 12 [some (.inr (.inr 113)), some (.inl x1), some (.inl x2)] [] w = (if x2 < (rd w 112 24) then Lk P0 (M0 Ls) d m_M_soundOf [.inr (.inr 113), .inl x2, .inl x1] w (fun r_ w_ => Lm P0 (M0 Ls) d m_M_isBroken 31 [some (.inr (.inr 113)), some (.inl x1), some (.inl x2)] (r_.toList ++ [.inl x2, .inr (.inr 125)]) w_) else Lk P0 (M0 Ls) d m_M_strongIn [.inr (.inr 113), .inl x1] w (fun r_ w_ => Lm P0 (M0 Ls) d m_M_isBroken 58 [some (.inr (.inr 113)), some (.inl x1), some (.inl x2)] (r_.toList ++ [.inr (.inr 113)]) w_)) := by
  rw [Lm_unf P0 (M0 Ls) sp_240 12]
  rfl
set_option maxRecDepth 100000 in
theorem E_240_31 (Ls d : Nat) (x1 x2 y0 y1 : Int) (w : AW) : Lm P0 (M0 Ls) d m_M_isBroken 31 [some (.inr (.inr 113)), some (.inl x1), some (.inl x2)] [.inl y0, .inl y1, .inr (.inr 125)] w = (if 0 ≤ y1 ∧ y1 < 9 then Lk P0 (M0 Ls) d m_M_soundOf [.inr (.inr 113), .inl x2, .inl (w32 (x1 - 1))] (wC w 124 y1 y0) (fun r_ w_ => Lm P0 (M0 Ls) d m_M_isBroken 45 [some (.inr (.inr 113)), some (.inl x1), some (.inl x2)] (r_.toList ++ [.inl x2, .inr (.inr 126)]) w_) else none) := by
  rw [Lm_unf P0 (M0 Ls) sp_240 11]
  rfl
set_option maxRecDepth 100000 in
theorem E_240_45 (Ls d : Nat) (x1 x2 y0 y1 : Int) (w : AW) : Lm P0 (M0 Ls) d m_M_isBroken 45 [some (.inr (.inr 113)), some (.inl x1), some (.inl x2)] [.inl y0, .inl y1, .inr (.inr 126)] w = (if 0 ≤ y1 ∧ y1 < 9 then Lm P0 (M0 Ls) d m_M_isBroken 12 [some (.inr (.inr 113)), some (.inl x1), some (.inl (w32 (x2 + 1)))] [] (wC w 125 y1 y0) else none) := by
  rw [Lm_unf P0 (M0 Ls) sp_240 5]
  rfl
set_option maxRecDepth 100000 in
theorem E_240_58 (Ls d : Nat) (x1 x2 y0 : Int) (w : AW) : Lm P0 (M0 Ls) d m_M_isBroken 58 [some (.inr (.inr 113)), some (.inl x1), some (.inl x2)] [.inl y0, .inr (.inr 113)] w = Lk P0 (M0 Ls) d m_M_isAgainst [.inr (.inr 113), .inl y0, .inl 1] w (fun r_ w_ => Lm P0 (M0 Ls) d m_M_isBroken 62 [some (.inr (.inr 113)), some (.inl x1), some (.inl x2)] (r_.toList ++ []) w_) := by
  rw [Lm_unf P0 (M0 Ls) sp_240 3]
  rfl
set_option maxRecDepth 100000 in
theorem E_240_62 (Ls d : Nat) (x1 x2 y0 : Int) (w : AW) : Lm P0 (M0 Ls) d m_M_isBroken 62 [some (.inr (.inr 113)), some (.inl x1), some (.inl x2)] [.inl y0] w = (if rok 3 y0 = true then some (some (.inl y0), w) else none) := by
  rw [Lm_unf P0 (M0 Ls) sp_240 2]
  rfl
def sp_241 : Nat → Bool := fun q => [0, 11, 16, 23, 29, 41, 61].contains q
set_option maxRecDepth 100000 in
theorem E_241_0 (Ls d : Nat) (p1 : Int) (w : AW) : Lm P0 (M0 Ls) d m_M_sing 0 [some (.inr (.inr 113)), some (.inl p1)] [] w = Lk P0 (M0 Ls) d m_M_notes [.inr (.inr 113)] (wC w 112 0 0) (fun r_ w_ => Lm P0 (M0 Ls) d m_M_sing 11 [some (.inr (.inr 113)), some (.inl p1)] (r_.toList ++ [.inl (-1), .inl p1]) w_) := by
  rw [Lm_unf P0 (M0 Ls) sp_241 8]
  rfl
set_option maxRecDepth 100000 in
theorem E_241_11 (Ls d : Nat) (x1 y0 y1 y2 : Int) (w : AW) : Lm P0 (M0 Ls) d m_M_sing 11 [some (.inr (.inr 113)), some (.inl x1)] [.inl y0, .inl y1, .inl y2] w = Lk P0 (M0 Ls) d m_M_within [.inl y2, .inl y1, .inl (w32 (y0 - 1))] w (fun r_ w_ => Lm P0 (M0 Ls) d m_M_sing 16 [some (.inr (.inr 113)), some (.inl x1)] (r_.toList ++ []) w_) := by
  rw [Lm_unf P0 (M0 Ls) sp_241 4]
  rfl
set_option maxRecDepth 100000 in
theorem E_241_16 (Ls d : Nat) (x1 y0 : Int) (w : AW) : Lm P0 (M0 Ls) d m_M_sing 16 [some (.inr (.inr 113)), some (.inl x1)] [.inl y0] w = (if y0 = 0 then Lm P0 (M0 Ls) d m_M_sing 29 [some (.inr (.inr 113)), some (.inl x1)] [] w else Lk P0 (M0 Ls) d m_M_beats [.inr (.inr 113)] w (fun r_ w_ => Lm P0 (M0 Ls) d m_M_sing 23 [some (.inr (.inr 113)), some (.inl x1)] (r_.toList ++ []) w_)) := by
  rw [Lm_unf P0 (M0 Ls) sp_241 4]
  rfl
set_option maxRecDepth 100000 in
theorem E_241_23 (Ls d : Nat) (x1 y0 : Int) (w : AW) : Lm P0 (M0 Ls) d m_M_sing 23 [some (.inr (.inr 113)), some (.inl x1)] [.inl y0] w = (if y0 = 200 then Lm P0 (M0 Ls) d m_M_sing 29 [some (.inr (.inr 113)), some (.inl x1)] [] w else Lk P0 (M0 Ls) d m_M_beats [.inr (.inr 113)] w (fun r_ w_ => Lm P0 (M0 Ls) d m_M_sing 41 [some (.inr (.inr 113)), some (.inl x1)] (r_.toList ++ [.inl 55, .inr (.inr 119)]) w_)) := by
  rw [Lm_unf P0 (M0 Ls) sp_241 8]
  rfl
set_option maxRecDepth 100000 in
theorem E_241_29 (Ls d : Nat) (x1 : Int) (w : AW) : Lm P0 (M0 Ls) d m_M_sing 29 [some (.inr (.inr 113)), some (.inl x1)] [] w = some (some (.inl (-1)), w) := by
  rw [Lm_unf P0 (M0 Ls) sp_241 3]
  rfl
set_option maxRecDepth 100000 in
theorem E_241_41 (Ls d : Nat) (x1 y0 y1 : Int) (w : AW) : Lm P0 (M0 Ls) d m_M_sing 41 [some (.inr (.inr 113)), some (.inl x1)] [.inl y0, .inl y1, .inr (.inr 119)] w = (if 0 ≤ (w32 (y1 + y0)) ∧ (w32 (y1 + y0)) < 1980 then Lk P0 (M0 Ls) d m_M_beats [.inr (.inr 113)] (wC (wC w 118 (w32 (y1 + y0)) (w32 (x1 + 1))) 118 54 (w32 ((rd (wC w 118 (w32 (y1 + y0)) (w32 (x1 + 1))) 118 54) + 1))) (fun r_ w_ => Lm P0 (M0 Ls) d m_M_sing 61 [some (.inr (.inr 113)), some (.inl x1)] (r_.toList ++ []) w_) else none) := by
  rw [Lm_unf P0 (M0 Ls) sp_241 16]
  rfl
set_option maxRecDepth 100000 in
theorem E_241_61 (Ls d : Nat) (x1 y0 : Int) (w : AW) : Lm P0 (M0 Ls) d m_M_sing 61 [some (.inr (.inr 113)), some (.inl x1)] [.inl y0] w = some (some (.inl y0), w) := by
  rw [Lm_unf P0 (M0 Ls) sp_241 2]
  rfl
def sp_242 : Nat → Bool := fun q => [0, 14, 17, 33].contains q
set_option maxRecDepth 100000 in
theorem E_242_0 (Ls d : Nat) (p1 : Int) (w : AW) : Lm P0 (M0 Ls) d m_M_note 0 [some (.inr (.inr 113)), some (.inl p1)] [] w = (if p1 < 0 then Lm P0 (M0 Ls) d m_M_note 17 [some (.inr (.inr 113)), some (.inl p1)] [] (wC w 112 0 0) else Lk P0 (M0 Ls) d m_M_beats [.inr (.inr 113)] (wC w 112 0 0) (fun r_ w_ => Lm P0 (M0 Ls) d m_M_note 14 [some (.inr (.inr 113)), some (.inl p1)] (r_.toList ++ [.inl p1]) w_)) := by
  rw [Lm_unf P0 (M0 Ls) sp_242 9]
  rfl
set_option maxRecDepth 100000 in
theorem E_242_14 (Ls d : Nat) (x1 y0 y1 : Int) (w : AW) : Lm P0 (M0 Ls) d m_M_note 14 [some (.inr (.inr 113)), some (.inl x1)] [.inl y0, .inl y1] w = (if y1 < y0 then (if 0 ≤ (w32 (55 + x1)) ∧ (w32 (55 + x1)) < 1980 then Lm P0 (M0 Ls) d m_M_note 33 [some (.inr (.inr 113)), some (.inl x1)] [.inl (w32 ((rd w 118 (w32 (55 + x1))) - 1))] w else none) else Lm P0 (M0 Ls) d m_M_note 17 [some (.inr (.inr 113)), some (.inl x1)] [] w) := by
  rw [Lm_unf P0 (M0 Ls) sp_242 11]
  rfl
set_option maxRecDepth 100000 in
theorem E_242_17 (Ls d : Nat) (x1 : Int) (w : AW) : Lm P0 (M0 Ls) d m_M_note 17 [some (.inr (.inr 113)), some (.inl x1)] [] w = Lm P0 (M0 Ls) d m_M_note 33 [some (.inr (.inr 113)), some (.inl x1)] [.inl (-2)] w := by
  rw [Lm_unf P0 (M0 Ls) sp_242 4]
  rfl
set_option maxRecDepth 100000 in
theorem E_242_33 (Ls d : Nat) (x1 y0 : Int) (w : AW) : Lm P0 (M0 Ls) d m_M_note 33 [some (.inr (.inr 113)), some (.inl x1)] [.inl y0] w = some (some (.inl y0), w) := by
  rw [Lm_unf P0 (M0 Ls) sp_242 2]
  rfl
def sp_243 : Nat → Bool := fun q => [0, 9, 29, 32, 35, 49, 64].contains q
set_option maxRecDepth 100000 in
theorem E_243_0 (Ls d : Nat) (p1 p2 : Int) (w : AW) : Lm P0 (M0 Ls) d m_M_voice 0 [some (.inr (.inr 113)), some (.inl p1), some (.inl p2), none] [] w = (if p1 < 0 then Lm P0 (M0 Ls) d m_M_voice 32 [some (.inr (.inr 113)), some (.inl p1), some (.inl p2), none] [] w else Lk P0 (M0 Ls) d m_M_echoes [.inr (.inr 113)] w (fun r_ w_ => Lm P0 (M0 Ls) d m_M_voice 9 [some (.inr (.inr 113)), some (.inl p1), some (.inl p2), none] (r_.toList ++ [.inl p1]) w_)) := by
  rw [Lm_unf P0 (M0 Ls) sp_243 6]
  rfl
set_option maxRecDepth 100000 in
theorem E_243_9 (Ls d : Nat) (x1 x2 y0 y1 : Int) (w : AW) : Lm P0 (M0 Ls) d m_M_voice 9 [some (.inr (.inr 113)), some (.inl x1), some (.inl x2), none] [.inl y0, .inl y1] w = (if y0 < y1 then Lm P0 (M0 Ls) d m_M_voice 32 [some (.inr (.inr 113)), some (.inl x1), some (.inl x2), none] [] w else (if x2 < 0 then Lm P0 (M0 Ls) d m_M_voice 32 [some (.inr (.inr 113)), some (.inl x1), some (.inl x2), none] [] w else (if x2 < 1000 then Lk P0 (M0 Ls) d m_M_soundOf [.inr (.inr 113), .inl x1, .inl x2] w (fun r_ w_ => Lm P0 (M0 Ls) d m_M_voice 29 [some (.inr (.inr 113)), some (.inl x1), some (.inl x2), none] (r_.toList ++ []) w_) else Lm P0 (M0 Ls) d m_M_voice 32 [some (.inr (.inr 113)), some (.inl x1), some (.inl x2), none] [] w))) := by
  rw [Lm_unf P0 (M0 Ls) sp_243 11]
  rfl
set_option maxRecDepth 100000 in
theorem E_243_29 (Ls d : Nat) (x1 x2 y0 : Int) (w : AW) : Lm P0 (M0 Ls) d m_M_voice 29 [some (.inr (.inr 113)), some (.inl x1), some (.inl x2), none] [.inl y0] w = Lm P0 (M0 Ls) d m_M_voice 35 [some (.inr (.inr 113)), some (.inl x1), some (.inl x2), none] [.inl y0] w := by
  rw [Lm_unf P0 (M0 Ls) sp_243 3]
  rfl
set_option maxRecDepth 100000 in
theorem E_243_32 (Ls d : Nat) (x1 x2 : Int) (w : AW) : Lm P0 (M0 Ls) d m_M_voice 32 [some (.inr (.inr 113)), some (.inl x1), some (.inl x2), none] [] w = Lm P0 (M0 Ls) d m_M_voice 35 [some (.inr (.inr 113)), some (.inl x1), some (.inl x2), none] [.inl (-2000)] w := by
  rw [Lm_unf P0 (M0 Ls) sp_243 3]
  rfl
set_option maxRecDepth 100000 in
theorem E_243_35 (Ls d : Nat) (x1 x2 y0 : Int) (w : AW) : Lm P0 (M0 Ls) d m_M_voice 35 [some (.inr (.inr 113)), some (.inl x1), some (.inl x2), none] [.inl y0] w = (if y0 = (-2000) then Lm P0 (M0 Ls) d m_M_voice 49 [some (.inr (.inr 113)), some (.inl x1), some (.inl x2), some (.inl y0)] [.inl 1, .inr (.inr 113)] w else Lm P0 (M0 Ls) d m_M_voice 49 [some (.inr (.inr 113)), some (.inl x1), some (.inl x2), some (.inl y0)] [.inl 0, .inr (.inr 113)] w) := by
  rw [Lm_unf P0 (M0 Ls) sp_243 9]
  rfl
set_option maxRecDepth 100000 in
theorem E_243_49 (Ls d : Nat) (x1 x2 x3 y0 : Int) (w : AW) : Lm P0 (M0 Ls) d m_M_voice 49 [some (.inr (.inr 113)), some (.inl x1), some (.inl x2), some (.inl x3)] [.inl y0, .inr (.inr 113)] w = (if 0 < (rd (wC w 112 0 y0) 112 0) then Lm P0 (M0 Ls) d m_M_voice 64 [some (.inr (.inr 113)), some (.inl x1), some (.inl x2), some (.inl x3)] [.inl 0] (wC w 112 0 y0) else Lm P0 (M0 Ls) d m_M_voice 64 [some (.inr (.inr 113)), some (.inl x1), some (.inl x2), some (.inl x3)] [.inl x3] (wC w 112 0 y0)) := by
  rw [Lm_unf P0 (M0 Ls) sp_243 8]
  rfl
set_option maxRecDepth 100000 in
theorem E_243_64 (Ls d : Nat) (x1 x2 x3 y0 : Int) (w : AW) : Lm P0 (M0 Ls) d m_M_voice 64 [some (.inr (.inr 113)), some (.inl x1), some (.inl x2), some (.inl x3)] [.inl y0] w = some (some (.inl y0), w) := by
  rw [Lm_unf P0 (M0 Ls) sp_243 2]
  rfl
def sp_244 : Nat → Bool := fun q => [0, 9, 15, 20, 29].contains q
set_option maxRecDepth 100000 in
theorem E_244_0 (Ls d : Nat) (w : AW) : Lm P0 (M0 Ls) d m_M_end 0 [some (.inr (.inr 113)), none, none] [] w = Lm P0 (M0 Ls) d m_M_end 9 [some (.inr (.inr 113)), some (.inl 600), none] [] (wC w 112 0 0) := by
  rw [Lm_unf P0 (M0 Ls) sp_244 7]
  rfl
set_option maxRecDepth 100000 in
theorem E_244_9 (Ls d : Nat) (x1 : Int) (u2 : Option AV) (w : AW) : Lm P0 (M0 Ls) d m_M_end 9 [some (.inr (.inr 113)), some (.inl x1), u2] [] w = (if x1 < 0 then some (some (.inl (-1)), w) else Lm P0 (M0 Ls) d m_M_end 15 [some (.inr (.inr 113)), some (.inl x1), some (.inl 0)] [] w) := by
  rw [Lm_unf P0 (M0 Ls) sp_244 6]
  rfl
set_option maxRecDepth 100000 in
theorem E_244_15 (Ls d : Nat) (x1 x2 : Int) (w : AW) : Lm P0 (M0 Ls) d m_M_end 15 [some (.inr (.inr 113)), some (.inl x1), some (.inl x2)] [] w = Lk P0 (M0 Ls) d m_M_echoes [.inr (.inr 113)] w (fun r_ w_ => Lm P0 (M0 Ls) d m_M_end 20 [some (.inr (.inr 113)), some (.inl x1), some (.inl x2)] (r_.toList ++ [.inl x2]) w_) := by
  rw [Lm_unf P0 (M0 Ls) sp_244 4]
  rfl
set_option maxRecDepth 100000 in
theorem E_244_20 (Ls d : Nat) (x1 x2 y0 y1 : Int) (w : AW) : Lm P0 (M0 Ls) d m_M_end 20 [some (.inr (.inr 113)), some (.inl x1), some (.inl x2)] [.inl y0, .inl y1] w = (if y0 < y1 then Lm P0 (M0 Ls) d m_M_end 9 [some (.inr (.inr 113)), some (.inl (w32 (x1 + (-1)))), some (.inl x2)] [] w else Lk P0 (M0 Ls) d m_M_soundOf [.inr (.inr 113), .inl x2, .inl x1] w (fun r_ w_ => Lm P0 (M0 Ls) d m_M_end 29 [some (.inr (.inr 113)), some (.inl x1), some (.inl x2)] (r_.toList ++ []) w_)) := by
  rw [Lm_unf P0 (M0 Ls) sp_244 6]
  rfl
set_option maxRecDepth 100000 in
theorem E_244_29 (Ls d : Nat) (x1 x2 y0 : Int) (w : AW) : Lm P0 (M0 Ls) d m_M_end 29 [some (.inr (.inr 113)), some (.inl x1), some (.inl x2)] [.inl y0] w = (if y0 = (-2000) then Lm P0 (M0 Ls) d m_M_end 15 [some (.inr (.inr 113)), some (.inl x1), some (.inl (w32 (x2 + 1)))] [] w else some (some (.inl x1), w)) := by
  rw [Lm_unf P0 (M0 Ls) sp_244 6]
  rfl
def sp_245 : Nat → Bool := fun q => [0, 11, 18, 30, 81].contains q
set_option maxRecDepth 100000 in
theorem E_245_0 (Ls d : Nat) (p1 : Int) (w : AW) : Lm P0 (M0 Ls) d m_M_clash 0 [some (.inr (.inr 113)), some (.inl p1), none] [] w = Lk P0 (M0 Ls) d m_M_within [.inl p1, .inl 0, .inl 4] (wC w 112 0 0) (fun r_ w_ => Lm P0 (M0 Ls) d m_M_clash 11 [some (.inr (.inr 113)), some (.inl p1), none] (r_.toList ++ []) w_) := by
  rw [Lm_unf P0 (M0 Ls) sp_245 8]
  rfl
set_option maxRecDepth 100000 in
theorem E_245_11 (Ls d : Nat) (x1 y0 : Int) (w : AW) : Lm P0 (M0 Ls) d m_M_clash 11 [some (.inr (.inr 113)), some (.inl x1), none] [.inl y0] w = (if y0 = 0 then some (some (.inl (-1)), w) else Lm P0 (M0 Ls) d m_M_clash 18 [some (.inr (.inr 113)), some (.inl x1), some (.inl 0)] [] w) := by
  rw [Lm_unf P0 (M0 Ls) sp_245 5]
  rfl
set_option maxRecDepth 100000 in
theorem E_245_18 (Ls d : Nat) (x1 x2 : Int) (w : AW) : Lm P0 (M0 Ls) d m_M_clash 18 [some (.inr (.inr 113)), some (.inl x1), some (.inl x2)] [] w = (if 600 < x2 then some (some (.inl (-1)), w) else Lk P0 (M0 Ls) d m_M_isBroken [.inr (.inr 113), .inl x2] w (fun r_ w_ => Lm P0 (M0 Ls) d m_M_clash 30 [some (.inr (.inr 113)), some (.inl x1), some (.inl x2)] (r_.toList ++ []) w_)) := by
  rw [Lm_unf P0 (M0 Ls) sp_245 7]
  rfl
set_option maxRecDepth 100000 in
theorem E_245_30 (Ls d : Nat) (x1 x2 y0 : Int) (w : AW) : Lm P0 (M0 Ls) d m_M_clash 30 [some (.inr (.inr 113)), some (.inl x1), some (.inl x2)] [.inl y0] w = (if y0 = 0 then Lm P0 (M0 Ls) d m_M_clash 18 [some (.inr (.inr 113)), some (.inl x1), some (.inl (w32 (x2 + 1)))] [] w else (if x1 = 0 then Lm P0 (M0 Ls) d m_M_clash 81 [some (.inr (.inr 113)), some (.inl x1), some (.inl x2)] [.inl x2] w else (if x1 = 1 then Lm P0 (M0 Ls) d m_M_clash 81 [some (.inr (.inr 113)), some (.inl x1), some (.inl x2)] [.inl (rd w 112 25)] w else (if x1 = 2 then Lm P0 (M0 Ls) d m_M_clash 81 [some (.inr (.inr 113)), some (.inl x1), some (.inl x2)] [.inl (rd w 112 26)] w else (if x1 = 3 then Lm P0 (M0 Ls) d m_M_clash 81 [some (.inr (.inr 113)), some (.inl x1), some (.inl x2)] [.inl (rd w 112 27)] w else Lm P0 (M0 Ls) d m_M_clash 81 [some (.inr (.inr 113)), some (.inl x1), some (.inl x2)] [.inl (rd w 112 28)] w))))) := by
  rw [Lm_unf P0 (M0 Ls) sp_245 17]
  rfl
set_option maxRecDepth 100000 in
theorem E_245_81 (Ls d : Nat) (x1 x2 y0 : Int) (w : AW) : Lm P0 (M0 Ls) d m_M_clash 81 [some (.inr (.inr 113)), some (.inl x1), some (.inl x2)] [.inl y0] w = some (some (.inl y0), w) := by
  rw [Lm_unf P0 (M0 Ls) sp_245 2]
  rfl
def sp_246 : Nat → Bool := fun q => [0, 9, 22, 30].contains q
set_option maxRecDepth 100000 in
theorem E_246_0 (Ls d : Nat) (w : AW) : Lm P0 (M0 Ls) d m_M_clashes 0 [some (.inr (.inr 113)), none, none] [] w = Lm P0 (M0 Ls) d m_M_clashes 9 [some (.inr (.inr 113)), some (.inl 0), some (.inl 0)] [] (wC w 112 0 0) := by
  rw [Lm_unf P0 (M0 Ls) sp_246 9]
  rfl
set_option maxRecDepth 100000 in
theorem E_246_9 (Ls d : Nat) (x1 x2 : Int) (w : AW) : Lm P0 (M0 Ls) d m_M_clashes 9 [some (.inr (.inr 113)), some (.inl x1), some (.inl x2)] [] w = (if 600 < x2 then some (some (.inl x1), w) else Lk P0 (M0 Ls) d m_M_isBroken [.inr (.inr 113), .inl x2] w (fun r_ w_ => Lm P0 (M0 Ls) d m_M_clashes 22 [some (.inr (.inr 113)), some (.inl x1), some (.inl x2)] (r_.toList ++ [.inl x1]) w_)) := by
  rw [Lm_unf P0 (M0 Ls) sp_246 8]
  rfl
set_option maxRecDepth 100000 in
theorem E_246_22 (Ls d : Nat) (x1 x2 y0 y1 : Int) (w : AW) : Lm P0 (M0 Ls) d m_M_clashes 22 [some (.inr (.inr 113)), some (.inl x1), some (.inl x2)] [.inl y0, .inl y1] w = (if y0 = 0 then Lm P0 (M0 Ls) d m_M_clashes 30 [some (.inr (.inr 113)), some (.inl x1), some (.inl x2)] [.inl 0, .inl y1] w else Lm P0 (M0 Ls) d m_M_clashes 30 [some (.inr (.inr 113)), some (.inl x1), some (.inl x2)] [.inl 1, .inl y1] w) := by
  rw [Lm_unf P0 (M0 Ls) sp_246 5]
  rfl
set_option maxRecDepth 100000 in
theorem E_246_30 (Ls d : Nat) (x1 x2 y0 y1 : Int) (w : AW) : Lm P0 (M0 Ls) d m_M_clashes 30 [some (.inr (.inr 113)), some (.inl x1), some (.inl x2)] [.inl y0, .inl y1] w = Lm P0 (M0 Ls) d m_M_clashes 9 [some (.inr (.inr 113)), some (.inl (w32 (y1 + y0))), some (.inl (w32 (x2 + 1)))] [] w := by
  rw [Lm_unf P0 (M0 Ls) sp_246 6]
  rfl
def sp_247 : Nat → Bool := fun q => [0, 12, 22, 27, 30].contains q
set_option maxRecDepth 100000 in
theorem E_247_0 (Ls d : Nat) (p1 p2 : Int) (w : AW) : Lm P0 (M0 Ls) d m_M_fix 0 [some (.inr (.inr 113)), some (.inl p1), some (.inl p2)] [] w = Lk P0 (M0 Ls) d m_M_within [.inl p1, .inl 0, .inl 59] (wC w 112 0 0) (fun r_ w_ => Lm P0 (M0 Ls) d m_M_fix 12 [some (.inr (.inr 113)), some (.inl p1), some (.inl p2)] (r_.toList ++ []) w_) := by
  rw [Lm_unf P0 (M0 Ls) sp_247 8]
  rfl
set_option maxRecDepth 100000 in
theorem E_247_12 (Ls d : Nat) (x1 x2 y0 : Int) (w : AW) : Lm P0 (M0 Ls) d m_M_fix 12 [some (.inr (.inr 113)), some (.inl x1), some (.inl x2)] [.inl y0] w = (if y0 = 0 then Lm P0 (M0 Ls) d m_M_fix 30 [some (.inr (.inr 113)), some (.inl x1), some (.inl x2)] [] w else Lk P0 (M0 Ls) d m_M_notes [.inr (.inr 113)] w (fun r_ w_ => Lm P0 (M0 Ls) d m_M_fix 22 [some (.inr (.inr 113)), some (.inl x1), some (.inl x2)] (r_.toList ++ [.inl (-2), .inl x2]) w_)) := by
  rw [Lm_unf P0 (M0 Ls) sp_247 6]
  rfl
set_option maxRecDepth 100000 in
theorem E_247_22 (Ls d : Nat) (x1 x2 y0 y1 y2 : Int) (w : AW) : Lm P0 (M0 Ls) d m_M_fix 22 [some (.inr (.inr 113)), some (.inl x1), some (.inl x2)] [.inl y0, .inl y1, .inl y2] w = Lk P0 (M0 Ls) d m_M_within [.inl y2, .inl y1, .inl (w32 (y0 - 1))] w (fun r_ w_ => Lm P0 (M0 Ls) d m_M_fix 27 [some (.inr (.inr 113)), some (.inl x1), some (.inl x2)] (r_.toList ++ []) w_) := by
  rw [Lm_unf P0 (M0 Ls) sp_247 4]
  rfl
set_option maxRecDepth 100000 in
theorem E_247_27 (Ls d : Nat) (x1 x2 y0 : Int) (w : AW) : Lm P0 (M0 Ls) d m_M_fix 27 [some (.inr (.inr 113)), some (.inl x1), some (.inl x2)] [.inl y0] w = (if y0 = 0 then Lm P0 (M0 Ls) d m_M_fix 30 [some (.inr (.inr 113)), some (.inl x1), some (.inl x2)] [] w else (if 0 ≤ (w32 (255 + x1)) ∧ (w32 (255 + x1)) < 1980 then some (some (.inl 1), wC w 118 (w32 (255 + x1)) (w32 (x2 + 2))) else none)) := by
  rw [Lm_unf P0 (M0 Ls) sp_247 13]
  rfl
set_option maxRecDepth 100000 in
theorem E_247_30 (Ls d : Nat) (x1 x2 : Int) (w : AW) : Lm P0 (M0 Ls) d m_M_fix 30 [some (.inr (.inr 113)), some (.inl x1), some (.inl x2)] [] w = some (some (.inl 0), w) := by
  rw [Lm_unf P0 (M0 Ls) sp_247 3]
  rfl
def sp_248 : Nat → Bool := fun q => [0, 6, 11, 20, 30, 34, 45, 54, 61, 62, 85, 97, 103, 121, 131, 146, 147].contains q
set_option maxRecDepth 100000 in
theorem E_248_0 (Ls d : Nat) (w : AW) : Lm P0 (M0 Ls) d m_M_findDepth 0 [some (.inr (.inr 113)), none, none, none, none] [] w = Lm P0 (M0 Ls) d m_M_findDepth 6 [some (.inr (.inr 113)), some (.inl 0), some (.inl 1), some (.inl 0), none] [] w := by
  rw [Lm_unf P0 (M0 Ls) sp_248 8]
  rfl
set_option maxRecDepth 100000 in
theorem E_248_6 (Ls d : Nat) (x1 x2 x3 : Int) (w : AW) : Lm P0 (M0 Ls) d m_M_findDepth 6 [some (.inr (.inr 113)), some (.inl x1), some (.inl x2), some (.inl x3), none] [] w = Lk P0 (M0 Ls) d m_M_echoes [.inr (.inr 113)] w (fun r_ w_ => Lm P0 (M0 Ls) d m_M_findDepth 11 [some (.inr (.inr 113)), some (.inl x1), some (.inl x2), some (.inl x3), none] (r_.toList ++ [.inl x3]) w_) := by
  rw [Lm_unf P0 (M0 Ls) sp_248 4]
  rfl
set_option maxRecDepth 100000 in
theorem E_248_11 (Ls d : Nat) (x1 x2 x3 y0 y1 : Int) (w : AW) : Lm P0 (M0 Ls) d m_M_findDepth 11 [some (.inr (.inr 113)), some (.inl x1), some (.inl x2), some (.inl x3), none] [.inl y0, .inl y1] w = (if y1 < y0 then Lk P0 (M0 Ls) d m_M_echoOf [.inr (.inr 113), .inl x3, .inl 0] w (fun r_ w_ => Lm P0 (M0 Ls) d m_M_findDepth 20 [some (.inr (.inr 113)), some (.inl x1), some (.inl x2), some (.inl x3), none] (r_.toList ++ []) w_) else (if 0 < (rd w 118 51) then Lm P0 (M0 Ls) d m_M_findDepth 85 [some (.inr (.inr 113)), some (.inl x1), some (.inl x2), some (.inl x3), none] [.inl 1, .inl x1] w else Lm P0 (M0 Ls) d m_M_findDepth 85 [some (.inr (.inr 113)), some (.inl x1), some (.inl x2), some (.inl x3), none] [.inl 0, .inl x1] w)) := by
  rw [Lm_unf P0 (M0 Ls) sp_248 11]
  rfl
set_option maxRecDepth 100000 in
theorem E_248_20 (Ls d : Nat) (x1 x2 x3 y0 : Int) (w : AW) : Lm P0 (M0 Ls) d m_M_findDepth 20 [some (.inr (.inr 113)), some (.inl x1), some (.inl x2), some (.inl x3), none] [.inl y0] w = (if x1 < y0 then Lk P0 (M0 Ls) d m_M_echoOf [.inr (.inr 113), .inl x3, .inl 0] w (fun r_ w_ => Lm P0 (M0 Ls) d m_M_findDepth 30 [some (.inr (.inr 113)), some (.inl x1), some (.inl x2), some (.inl x3), none] (r_.toList ++ []) w_) else Lm P0 (M0 Ls) d m_M_findDepth 34 [some (.inr (.inr 113)), some (.inl x1), some (.inl x2), some (.inl x3), none] [.inl x1] w) := by
  rw [Lm_unf P0 (M0 Ls) sp_248 7]
  rfl
set_option maxRecDepth 100000 in
theorem E_248_30 (Ls d : Nat) (x1 x2 x3 y0 : Int) (w : AW) : Lm P0 (M0 Ls) d m_M_findDepth 30 [some (.inr (.inr 113)), some (.inl x1), some (.inl x2), some (.inl x3), none] [.inl y0] w = Lm P0 (M0 Ls) d m_M_findDepth 34 [some (.inr (.inr 113)), some (.inl x1), some (.inl x2), some (.inl x3), none] [.inl y0] w := by
  rw [Lm_unf P0 (M0 Ls) sp_248 3]
  rfl
set_option maxRecDepth 100000 in
theorem E_248_34 (Ls d : Nat) (x1 x2 x3 y0 : Int) (w : AW) : Lm P0 (M0 Ls) d m_M_findDepth 34 [some (.inr (.inr 113)), some (.inl x1), some (.inl x2), some (.inl x3), none] [.inl y0] w = (if x2 = 0 then Lm P0 (M0 Ls) d m_M_findDepth 61 [some (.inr (.inr 113)), some (.inl y0), some (.inl x2), some (.inl x3), none] [] w else Lk P0 (M0 Ls) d m_M_echoOf [.inr (.inr 113), .inl x3, .inl 3] w (fun r_ w_ => Lm P0 (M0 Ls) d m_M_findDepth 45 [some (.inr (.inr 113)), some (.inl y0), some (.inl x2), some (.inl x3), none] (r_.toList ++ []) w_)) := by
  rw [Lm_unf P0 (M0 Ls) sp_248 8]
  rfl
set_option maxRecDepth 100000 in
theorem E_248_45 (Ls d : Nat) (x1 x2 x3 y0 : Int) (w : AW) : Lm P0 (M0 Ls) d m_M_findDepth 45 [some (.inr (.inr 113)), some (.inl x1), some (.inl x2), some (.inl x3), none] [.inl y0] w = (if y0 = 0 then Lk P0 (M0 Ls) d m_M_echoOf [.inr (.inr 113), .inl x3, .inl 4] w (fun r_ w_ => Lm P0 (M0 Ls) d m_M_findDepth 54 [some (.inr (.inr 113)), some (.inl x1), some (.inl x2), some (.inl x3), none] (r_.toList ++ []) w_) else Lm P0 (M0 Ls) d m_M_findDepth 61 [some (.inr (.inr 113)), some (.inl x1), some (.inl x2), some (.inl x3), none] [] w) := by
  rw [Lm_unf P0 (M0 Ls) sp_248 6]
  rfl
set_option maxRecDepth 100000 in
theorem E_248_54 (Ls d : Nat) (x1 x2 x3 y0 : Int) (w : AW) : Lm P0 (M0 Ls) d m_M_findDepth 54 [some (.inr (.inr 113)), some (.inl x1), some (.inl x2), some (.inl x3), none] [.inl y0] w = (if y0 = 0 then Lm P0 (M0 Ls) d m_M_findDepth 62 [some (.inr (.inr 113)), some (.inl x1), some (.inl x2), some (.inl x3), none] [.inl 1] w else Lm P0 (M0 Ls) d m_M_findDepth 61 [some (.inr (.inr 113)), some (.inl x1), some (.inl x2), some (.inl x3), none] [] w) := by
  rw [Lm_unf P0 (M0 Ls) sp_248 5]
  rfl
set_option maxRecDepth 100000 in
theorem E_248_61 (Ls d : Nat) (x1 x2 x3 : Int) (w : AW) : Lm P0 (M0 Ls) d m_M_findDepth 61 [some (.inr (.inr 113)), some (.inl x1), some (.inl x2), some (.inl x3), none] [] w = Lm P0 (M0 Ls) d m_M_findDepth 62 [some (.inr (.inr 113)), some (.inl x1), some (.inl x2), some (.inl x3), none] [.inl 0] w := by
  rw [Lm_unf P0 (M0 Ls) sp_248 3]
  rfl
set_option maxRecDepth 100000 in
theorem E_248_62 (Ls d : Nat) (x1 x2 x3 y0 : Int) (w : AW) : Lm P0 (M0 Ls) d m_M_findDepth 62 [some (.inr (.inr 113)), some (.inl x1), some (.inl x2), some (.inl x3), none] [.inl y0] w = Lm P0 (M0 Ls) d m_M_findDepth 6 [some (.inr (.inr 113)), some (.inl x1), some (.inl y0), some (.inl (w32 (x3 + 1))), none] [] w := by
  rw [Lm_unf P0 (M0 Ls) sp_248 5]
  rfl
set_option maxRecDepth 100000 in
theorem E_248_85 (Ls d : Nat) (x1 x2 x3 y0 y1 : Int) (w : AW) : Lm P0 (M0 Ls) d m_M_findDepth 85 [some (.inr (.inr 113)), some (.inl x1), some (.inl x2), some (.inl x3), none] [.inl y0, .inl y1] w = (if (w32 (y1 + y0)) < 1 then Lm P0 (M0 Ls) d m_M_findDepth 97 [some (.inr (.inr 113)), some (.inl (w32 (y1 + y0))), some (.inl x2), some (.inl x3), none] [.inl 1] w else Lm P0 (M0 Ls) d m_M_findDepth 97 [some (.inr (.inr 113)), some (.inl (w32 (y1 + y0))), some (.inl x2), some (.inl x3), none] [.inl (w32 (y1 + y0))] w) := by
  rw [Lm_unf P0 (M0 Ls) sp_248 9]
  rfl
set_option maxRecDepth 100000 in
theorem E_248_97 (Ls d : Nat) (x1 x2 x3 y0 : Int) (w : AW) : Lm P0 (M0 Ls) d m_M_findDepth 97 [some (.inr (.inr 113)), some (.inl x1), some (.inl x2), some (.inl x3), none] [.inl y0] w = Lm P0 (M0 Ls) d m_M_findDepth 103 [some (.inr (.inr 113)), some (.inl y0), some (.inl x2), some (.inl 1), some (.inl 0)] [] w := by
  rw [Lm_unf P0 (M0 Ls) sp_248 7]
  rfl
set_option maxRecDepth 100000 in
theorem E_248_103 (Ls d : Nat) (x1 x2 x3 x4 : Int) (w : AW) : Lm P0 (M0 Ls) d m_M_findDepth 103 [some (.inr (.inr 113)), some (.inl x1), some (.inl x2), some (.inl x3), some (.inl x4)] [] w = (if x4 < x1 then (if 4096 < x3 then Lm P0 (M0 Ls) d m_M_findDepth 131 [some (.inr (.inr 113)), some (.inl x1), some (.inl x2), some (.inl x3), some (.inl x4)] [] w else Lk P0 (M0 Ls) d m_M_notes [.inr (.inr 113)] w (fun r_ w_ => Lm P0 (M0 Ls) d m_M_findDepth 121 [some (.inr (.inr 113)), some (.inl x1), some (.inl x2), some (.inl x3), some (.inl x4)] (r_.toList ++ [.inl x3]) w_)) else Lm P0 (M0 Ls) d m_M_findDepth 131 [some (.inr (.inr 113)), some (.inl x1), some (.inl x2), some (.inl x3), some (.inl x4)] [] w) := by
  rw [Lm_unf P0 (M0 Ls) sp_248 10]
  rfl
set_option maxRecDepth 100000 in
theorem E_248_121 (Ls d : Nat) (x1 x2 x3 x4 y0 y1 : Int) (w : AW) : Lm P0 (M0 Ls) d m_M_findDepth 121 [some (.inr (.inr 113)), some (.inl x1), some (.inl x2), some (.inl x3), some (.inl x4)] [.inl y0, .inl y1] w = Lm P0 (M0 Ls) d m_M_findDepth 103 [some (.inr (.inr 113)), some (.inl x1), some (.inl x2), some (.inl (w32 (y1 * (w32 (y0 + 1))))), some (.inl (w32 (x4 + 1)))] [] w := by
  rw [Lm_unf P0 (M0 Ls) sp_248 8]
  rfl
set_option maxRecDepth 100000 in
theorem E_248_131 (Ls d : Nat) (x1 x2 x3 x4 : Int) (w : AW) : Lm P0 (M0 Ls) d m_M_findDepth 131 [some (.inr (.inr 113)), some (.inl x1), some (.inl x2), some (.inl x3), some (.inl x4)] [] w = (if x2 = 0 then Lm P0 (M0 Ls) d m_M_findDepth 146 [some (.inr (.inr 113)), some (.inl x1), some (.inl x2), some (.inl x3), some (.inl x4)] [] w else (if 4096 < x3 then Lm P0 (M0 Ls) d m_M_findDepth 146 [some (.inr (.inr 113)), some (.inl x1), some (.inl x2), some (.inl x3), some (.inl x4)] [] w else Lm P0 (M0 Ls) d m_M_findDepth 147 [some (.inr (.inr 113)), some (.inl x1), some (.inl x2), some (.inl x3), some (.inl x4)] [.inl x1] w)) := by
  rw [Lm_unf P0 (M0 Ls) sp_248 9]
  rfl
set_option maxRecDepth 100000 in
theorem E_248_146 (Ls d : Nat) (x1 x2 x3 x4 : Int) (w : AW) : Lm P0 (M0 Ls) d m_M_findDepth 146 [some (.inr (.inr 113)), some (.inl x1), some (.inl x2), some (.inl x3), some (.inl x4)] [] w = Lm P0 (M0 Ls) d m_M_findDepth 147 [some (.inr (.inr 113)), some (.inl x1), some (.inl x2), some (.inl x3), some (.inl x4)] [.inl (-1)] w := by
  rw [Lm_unf P0 (M0 Ls) sp_248 3]
  rfl
set_option maxRecDepth 100000 in
theorem E_248_147 (Ls d : Nat) (x1 x2 x3 x4 y0 : Int) (w : AW) : Lm P0 (M0 Ls) d m_M_findDepth 147 [some (.inr (.inr 113)), some (.inl x1), some (.inl x2), some (.inl x3), some (.inl x4)] [.inl y0] w = some (some (.inl y0), w) := by
  rw [Lm_unf P0 (M0 Ls) sp_248 2]
  rfl
