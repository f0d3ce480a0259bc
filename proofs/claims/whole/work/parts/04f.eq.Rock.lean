def sp_85 : Nat → Bool := fun q => [0, 10].contains q
set_option maxRecDepth 100000 in
theorem E_85_0 (Ls d : Nat) (p1 : Int) (w : AW) : Lm P0 (M0 Ls) d m_Rock_mostLines 0 [some (.inl p1)] [] w = (if p1 = 1 then Lm P0 (M0 Ls) d m_Rock_mostLines 10 [some (.inl p1)] [.inl 4] w else Lm P0 (M0 Ls) d m_Rock_mostLines 10 [some (.inl p1)] [.inl 2] w) := by
  rw [Lm_unf P0 (M0 Ls) sp_85 7]
  rfl
set_option maxRecDepth 100000 in
theorem E_85_10 (Ls d : Nat) (x0 y0 : Int) (w : AW) : Lm P0 (M0 Ls) d m_Rock_mostLines 10 [some (.inl x0)] [.inl y0] w = some (some (.inl y0), w) := by
  rw [Lm_unf P0 (M0 Ls) sp_85 2]
  rfl
def sp_86 : Nat → Bool := fun q => [0, 19].contains q
set_option maxRecDepth 100000 in
theorem E_86_0 (Ls d : Nat) (p1 p2 : Int) (w : AW) : Lm P0 (M0 Ls) d m_Rock_place 0 [some (.inl p1), some (.inl p2), none] [] w = (if p1 = 0 then Lm P0 (M0 Ls) d m_Rock_place 19 [some (.inl p1), some (.inl p2), none] [.inl 0] w else (if p1 = 1 then Lm P0 (M0 Ls) d m_Rock_place 19 [some (.inl p1), some (.inl p2), none] [.inl 2] w else Lm P0 (M0 Ls) d m_Rock_place 19 [some (.inl p1), some (.inl p2), none] [.inl 6] w)) := by
  rw [Lm_unf P0 (M0 Ls) sp_86 9]
  rfl
set_option maxRecDepth 100000 in
theorem E_86_19 (Ls d : Nat) (x0 x1 y0 : Int) (w : AW) : Lm P0 (M0 Ls) d m_Rock_place 19 [some (.inl x0), some (.inl x1), none] [.inl y0] w = some (some (.inl (w32 (y0 + x1))), w) := by
  rw [Lm_unf P0 (M0 Ls) sp_86 6]
  rfl
def sp_87 : Nat → Bool := fun q => [0, 29].contains q
set_option maxRecDepth 100000 in
theorem E_87_0 (Ls d : Nat) (w : AW) : Lm P0 (M0 Ls) d m_Rock_reset 0 [some (.inr (.inr 58))] [] w = Lk P0 (M0 Ls) d m_Arrays_fill [.inr (.inr 64), .inl 0] (wC (wC (wC (wC w 57 0 7) 57 1 4) 57 2 0) 57 12 0) (fun r_ w_ => Lm P0 (M0 Ls) d m_Rock_reset 29 [some (.inr (.inr 58))] (r_.toList ++ []) w_) := by
  rw [Lm_unf P0 (M0 Ls) sp_87 17]
  rfl
set_option maxRecDepth 100000 in
theorem E_87_29 (Ls d : Nat) (w : AW) : Lm P0 (M0 Ls) d m_Rock_reset 29 [some (.inr (.inr 58))] [] w = some (none, w) := by
  rw [Lm_unf P0 (M0 Ls) sp_87 2]
  rfl
def sp_87_1 : Nat → Bool := fun q => [0, 29].contains q
set_option maxRecDepth 100000 in
theorem E_87_0_1 (Ls d : Nat) (w : AW) : Lm P0 (M0 Ls) d m_Rock_reset 0 [some (.inr (.inr 72))] [] w = Lk P0 (M0 Ls) d m_Arrays_fill [.inr (.inr 78), .inl 0] (wC (wC (wC (wC w 71 0 7) 71 1 4) 71 2 0) 71 12 0) (fun r_ w_ => Lm P0 (M0 Ls) d m_Rock_reset 29 [some (.inr (.inr 72))] (r_.toList ++ []) w_) := by
  rw [Lm_unf P0 (M0 Ls) sp_87_1 17]
  rfl
set_option maxRecDepth 100000 in
theorem E_87_29_1 (Ls d : Nat) (w : AW) : Lm P0 (M0 Ls) d m_Rock_reset 29 [some (.inr (.inr 72))] [] w = some (none, w) := by
  rw [Lm_unf P0 (M0 Ls) sp_87_1 2]
  rfl
def sp_88 : Nat → Bool := fun q => [0, 8, 16, 24, 32, 47, 62, 77, 92, 107, 121, 136, 151, 168].contains q
set_option maxRecDepth 100000 in
theorem E_88_0 (Ls d : Nat) (p1 : Int) (w : AW) : Lm P0 (M0 Ls) d m_Rock_copyFrom 0 [some (.inr (.inr 58)), some (.inr (.inr p1))] [] w = (if 0 < p1 then (if (shv (M0 Ls) w (adr p1)).1 = 3 then Lm P0 (M0 Ls) d m_Rock_copyFrom 8 [some (.inr (.inr 58)), some (.inr (.inr p1))] [] (wC w 57 0 (cv (M0 Ls) w (adr p1) 0)) else none) else none) := by
  rw [Lm_unf P0 (M0 Ls) sp_88 6]
  rfl
set_option maxRecDepth 100000 in
theorem E_88_8 (Ls d : Nat) (x1 : Int) (w : AW) : Lm P0 (M0 Ls) d m_Rock_copyFrom 8 [some (.inr (.inr 58)), some (.inr (.inr x1))] [] w = (if 0 < x1 then (if (shv (M0 Ls) w (adr x1)).1 = 3 then Lm P0 (M0 Ls) d m_Rock_copyFrom 16 [some (.inr (.inr 58)), some (.inr (.inr x1))] [] (wC w 57 1 (cv (M0 Ls) w (adr x1) 1)) else none) else none) := by
  rw [Lm_unf P0 (M0 Ls) sp_88 6]
  rfl
set_option maxRecDepth 100000 in
theorem E_88_16 (Ls d : Nat) (x1 : Int) (w : AW) : Lm P0 (M0 Ls) d m_Rock_copyFrom 16 [some (.inr (.inr 58)), some (.inr (.inr x1))] [] w = (if 0 < x1 then (if (shv (M0 Ls) w (adr x1)).1 = 3 then Lm P0 (M0 Ls) d m_Rock_copyFrom 24 [some (.inr (.inr 58)), some (.inr (.inr x1))] [] (wC w 57 2 (cv (M0 Ls) w (adr x1) 2)) else none) else none) := by
  rw [Lm_unf P0 (M0 Ls) sp_88 6]
  rfl
set_option maxRecDepth 100000 in
theorem E_88_24 (Ls d : Nat) (x1 : Int) (w : AW) : Lm P0 (M0 Ls) d m_Rock_copyFrom 24 [some (.inr (.inr 58)), some (.inr (.inr x1))] [] w = (if 0 < x1 then (if (shv (M0 Ls) w (adr x1)).1 = 3 then Lm P0 (M0 Ls) d m_Rock_copyFrom 32 [some (.inr (.inr 58)), some (.inr (.inr x1))] [] (wC w 57 12 (cv (M0 Ls) w (adr x1) 12)) else none) else none) := by
  rw [Lm_unf P0 (M0 Ls) sp_88 6]
  rfl
set_option maxRecDepth 100000 in
theorem E_88_32 (Ls d : Nat) (x1 : Int) (w : AW) : Lm P0 (M0 Ls) d m_Rock_copyFrom 32 [some (.inr (.inr 58)), some (.inr (.inr x1))] [] w = (if 0 < x1 then (if (shv (M0 Ls) w (adr x1)).1 = 3 then (arN (M0 Ls) w (cv (M0 Ls) w (adr x1) 3) 100 100 100 none (fun s1 sn1 => (if s1 ≠ 58 ∧ (0 : Int) ≤ 8 ∧ (0 : Int) ≤ 0 ∧ (0 : Int) ≤ 0 ∧ (0 + 8 : Int) ≤ ((sn1 : Nat) : Int) ∧ (0 + 8 : Int) ≤ ((8 : Nat) : Int) ∧ 0 ≤ 8 then Lm P0 (M0 Ls) d m_Rock_copyFrom 47 [some (.inr (.inr 58)), some (.inr (.inr x1))] [] (wcp w s1 0 58 0 8) else none))) else none) else none) := by
  rw [Lm_unf P0 (M0 Ls) sp_88 10]
  rfl
set_option maxRecDepth 100000 in
theorem E_88_47 (Ls d : Nat) (x1 : Int) (w : AW) : Lm P0 (M0 Ls) d m_Rock_copyFrom 47 [some (.inr (.inr 58)), some (.inr (.inr x1))] [] w = (if 0 < x1 then (if (shv (M0 Ls) w (adr x1)).1 = 3 then (arN (M0 Ls) w (cv (M0 Ls) w (adr x1) 4) 100 100 100 none (fun s1 sn1 => (if s1 ≠ 59 ∧ (0 : Int) ≤ 8 ∧ (0 : Int) ≤ 0 ∧ (0 : Int) ≤ 0 ∧ (0 + 8 : Int) ≤ ((sn1 : Nat) : Int) ∧ (0 + 8 : Int) ≤ ((8 : Nat) : Int) ∧ 0 ≤ 8 then Lm P0 (M0 Ls) d m_Rock_copyFrom 62 [some (.inr (.inr 58)), some (.inr (.inr x1))] [] (wcp w s1 0 59 0 8) else none))) else none) else none) := by
  rw [Lm_unf P0 (M0 Ls) sp_88 10]
  rfl
set_option maxRecDepth 100000 in
theorem E_88_62 (Ls d : Nat) (x1 : Int) (w : AW) : Lm P0 (M0 Ls) d m_Rock_copyFrom 62 [some (.inr (.inr 58)), some (.inr (.inr x1))] [] w = (if 0 < x1 then (if (shv (M0 Ls) w (adr x1)).1 = 3 then (arN (M0 Ls) w (cv (M0 Ls) w (adr x1) 5) 100 100 100 none (fun s1 sn1 => (if s1 ≠ 60 ∧ (0 : Int) ≤ 8 ∧ (0 : Int) ≤ 0 ∧ (0 : Int) ≤ 0 ∧ (0 + 8 : Int) ≤ ((sn1 : Nat) : Int) ∧ (0 + 8 : Int) ≤ ((8 : Nat) : Int) ∧ 0 ≤ 8 then Lm P0 (M0 Ls) d m_Rock_copyFrom 77 [some (.inr (.inr 58)), some (.inr (.inr x1))] [] (wcp w s1 0 60 0 8) else none))) else none) else none) := by
  rw [Lm_unf P0 (M0 Ls) sp_88 10]
  rfl
set_option maxRecDepth 100000 in
theorem E_88_77 (Ls d : Nat) (x1 : Int) (w : AW) : Lm P0 (M0 Ls) d m_Rock_copyFrom 77 [some (.inr (.inr 58)), some (.inr (.inr x1))] [] w = (if 0 < x1 then (if (shv (M0 Ls) w (adr x1)).1 = 3 then (arN (M0 Ls) w (cv (M0 Ls) w (adr x1) 6) 100 100 100 none (fun s1 sn1 => (if s1 ≠ 61 ∧ (0 : Int) ≤ 8 ∧ (0 : Int) ≤ 0 ∧ (0 : Int) ≤ 0 ∧ (0 + 8 : Int) ≤ ((sn1 : Nat) : Int) ∧ (0 + 8 : Int) ≤ ((8 : Nat) : Int) ∧ 0 ≤ 8 then Lm P0 (M0 Ls) d m_Rock_copyFrom 92 [some (.inr (.inr 58)), some (.inr (.inr x1))] [] (wcp w s1 0 61 0 8) else none))) else none) else none) := by
  rw [Lm_unf P0 (M0 Ls) sp_88 10]
  rfl
set_option maxRecDepth 100000 in
theorem E_88_92 (Ls d : Nat) (x1 : Int) (w : AW) : Lm P0 (M0 Ls) d m_Rock_copyFrom 92 [some (.inr (.inr 58)), some (.inr (.inr x1))] [] w = (if 0 < x1 then (if (shv (M0 Ls) w (adr x1)).1 = 3 then (arN (M0 Ls) w (cv (M0 Ls) w (adr x1) 7) 100 100 100 none (fun s1 sn1 => (if s1 ≠ 62 ∧ (0 : Int) ≤ 8 ∧ (0 : Int) ≤ 0 ∧ (0 : Int) ≤ 0 ∧ (0 + 8 : Int) ≤ ((sn1 : Nat) : Int) ∧ (0 + 8 : Int) ≤ ((8 : Nat) : Int) ∧ 0 ≤ 8 then Lm P0 (M0 Ls) d m_Rock_copyFrom 107 [some (.inr (.inr 58)), some (.inr (.inr x1))] [] (wcp w s1 0 62 0 8) else none))) else none) else none) := by
  rw [Lm_unf P0 (M0 Ls) sp_88 10]
  rfl
set_option maxRecDepth 100000 in
theorem E_88_107 (Ls d : Nat) (x1 : Int) (w : AW) : Lm P0 (M0 Ls) d m_Rock_copyFrom 107 [some (.inr (.inr 58)), some (.inr (.inr x1))] [] w = (if 0 < x1 then (if (shv (M0 Ls) w (adr x1)).1 = 3 then (arN (M0 Ls) w (cv (M0 Ls) w (adr x1) 8) 100 100 100 none (fun s1 sn1 => (if s1 ≠ 63 ∧ (0 : Int) ≤ 3 ∧ (0 : Int) ≤ 0 ∧ (0 : Int) ≤ 0 ∧ (0 + 3 : Int) ≤ ((sn1 : Nat) : Int) ∧ (0 + 3 : Int) ≤ ((3 : Nat) : Int) ∧ 0 ≤ 8 then Lm P0 (M0 Ls) d m_Rock_copyFrom 121 [some (.inr (.inr 58)), some (.inr (.inr x1))] [] (wcp w s1 0 63 0 3) else none))) else none) else none) := by
  rw [Lm_unf P0 (M0 Ls) sp_88 10]
  rfl
set_option maxRecDepth 100000 in
theorem E_88_121 (Ls d : Nat) (x1 : Int) (w : AW) : Lm P0 (M0 Ls) d m_Rock_copyFrom 121 [some (.inr (.inr 58)), some (.inr (.inr x1))] [] w = (if 0 < x1 then (if (shv (M0 Ls) w (adr x1)).1 = 3 then (arN (M0 Ls) w (cv (M0 Ls) w (adr x1) 9) 100 100 100 none (fun s1 sn1 => (if s1 ≠ 64 ∧ (0 : Int) ≤ 8 ∧ (0 : Int) ≤ 0 ∧ (0 : Int) ≤ 0 ∧ (0 + 8 : Int) ≤ ((sn1 : Nat) : Int) ∧ (0 + 8 : Int) ≤ ((8 : Nat) : Int) ∧ 0 ≤ 8 then Lm P0 (M0 Ls) d m_Rock_copyFrom 136 [some (.inr (.inr 58)), some (.inr (.inr x1))] [] (wcp w s1 0 64 0 8) else none))) else none) else none) := by
  rw [Lm_unf P0 (M0 Ls) sp_88 10]
  rfl
set_option maxRecDepth 100000 in
theorem E_88_136 (Ls d : Nat) (x1 : Int) (w : AW) : Lm P0 (M0 Ls) d m_Rock_copyFrom 136 [some (.inr (.inr 58)), some (.inr (.inr x1))] [] w = (if 0 < x1 then (if (shv (M0 Ls) w (adr x1)).1 = 3 then (arN (M0 Ls) w (cv (M0 Ls) w (adr x1) 10) 100 100 100 none (fun s1 sn1 => (if s1 ≠ 65 ∧ (0 : Int) ≤ 8 ∧ (0 : Int) ≤ 0 ∧ (0 : Int) ≤ 0 ∧ (0 + 8 : Int) ≤ ((sn1 : Nat) : Int) ∧ (0 + 8 : Int) ≤ ((8 : Nat) : Int) ∧ 0 ≤ 8 then Lm P0 (M0 Ls) d m_Rock_copyFrom 151 [some (.inr (.inr 58)), some (.inr (.inr x1))] [] (wcp w s1 0 65 0 8) else none))) else none) else none) := by
  rw [Lm_unf P0 (M0 Ls) sp_88 10]
  rfl
set_option maxRecDepth 100000 in
theorem E_88_151 (Ls d : Nat) (x1 : Int) (w : AW) : Lm P0 (M0 Ls) d m_Rock_copyFrom 151 [some (.inr (.inr 58)), some (.inr (.inr x1))] [] w = (if 0 < x1 then (if (shv (M0 Ls) w (adr x1)).1 = 3 then (arN (M0 Ls) w (cv (M0 Ls) w (adr x1) 11) 100 100 100 none (fun s1 sn1 => (if s1 ≠ 66 ∧ (0 : Int) ≤ (rd w 57 12) ∧ (0 : Int) ≤ 0 ∧ (0 : Int) ≤ 0 ∧ (0 + (rd w 57 12) : Int) ≤ ((sn1 : Nat) : Int) ∧ (0 + (rd w 57 12) : Int) ≤ ((1000 : Nat) : Int) ∧ 0 ≤ 8 then Lm P0 (M0 Ls) d m_Rock_copyFrom 168 [some (.inr (.inr 58)), some (.inr (.inr x1))] [] (wcp w s1 0 66 0 (rd w 57 12)) else none))) else none) else none) := by
  rw [Lm_unf P0 (M0 Ls) sp_88 11]
  rfl
set_option maxRecDepth 100000 in
theorem E_88_168 (Ls d : Nat) (x1 : Int) (w : AW) : Lm P0 (M0 Ls) d m_Rock_copyFrom 168 [some (.inr (.inr 58)), some (.inr (.inr x1))] [] w = some (none, w) := by
  rw [Lm_unf P0 (M0 Ls) sp_88 2]
  rfl
def sp_88_1 : Nat → Bool := fun q => [0, 8, 16, 24, 32, 47, 62, 77, 92, 107, 121, 136, 151, 168].contains q
set_option maxRecDepth 100000 in
theorem E_88_0_1 (Ls d : Nat) (p1 : Int) (w : AW) : Lm P0 (M0 Ls) d m_Rock_copyFrom 0 [some (.inr (.inr 72)), some (.inr (.inr p1))] [] w = (if 0 < p1 then (if (shv (M0 Ls) w (adr p1)).1 = 3 then Lm P0 (M0 Ls) d m_Rock_copyFrom 8 [some (.inr (.inr 72)), some (.inr (.inr p1))] [] (wC w 71 0 (cv (M0 Ls) w (adr p1) 0)) else none) else none) := by
  rw [Lm_unf P0 (M0 Ls) sp_88_1 6]
  rfl
set_option maxRecDepth 100000 in
theorem E_88_8_1 (Ls d : Nat) (x1 : Int) (w : AW) : Lm P0 (M0 Ls) d m_Rock_copyFrom 8 [some (.inr (.inr 72)), some (.inr (.inr x1))] [] w = (if 0 < x1 then (if (shv (M0 Ls) w (adr x1)).1 = 3 then Lm P0 (M0 Ls) d m_Rock_copyFrom 16 [some (.inr (.inr 72)), some (.inr (.inr x1))] [] (wC w 71 1 (cv (M0 Ls) w (adr x1) 1)) else none) else none) := by
  rw [Lm_unf P0 (M0 Ls) sp_88_1 6]
  rfl
set_option maxRecDepth 100000 in
theorem E_88_16_1 (Ls d : Nat) (x1 : Int) (w : AW) : Lm P0 (M0 Ls) d m_Rock_copyFrom 16 [some (.inr (.inr 72)), some (.inr (.inr x1))] [] w = (if 0 < x1 then (if (shv (M0 Ls) w (adr x1)).1 = 3 then Lm P0 (M0 Ls) d m_Rock_copyFrom 24 [some (.inr (.inr 72)), some (.inr (.inr x1))] [] (wC w 71 2 (cv (M0 Ls) w (adr x1) 2)) else none) else none) := by
  rw [Lm_unf P0 (M0 Ls) sp_88_1 6]
  rfl
set_option maxRecDepth 100000 in
theorem E_88_24_1 (Ls d : Nat) (x1 : Int) (w : AW) : Lm P0 (M0 Ls) d m_Rock_copyFrom 24 [some (.inr (.inr 72)), some (.inr (.inr x1))] [] w = (if 0 < x1 then (if (shv (M0 Ls) w (adr x1)).1 = 3 then Lm P0 (M0 Ls) d m_Rock_copyFrom 32 [some (.inr (.inr 72)), some (.inr (.inr x1))] [] (wC w 71 12 (cv (M0 Ls) w (adr x1) 12)) else none) else none) := by
  rw [Lm_unf P0 (M0 Ls) sp_88_1 6]
  rfl
set_option maxRecDepth 100000 in
theorem E_88_32_1 (Ls d : Nat) (x1 : Int) (w : AW) : Lm P0 (M0 Ls) d m_Rock_copyFrom 32 [some (.inr (.inr 72)), some (.inr (.inr x1))] [] w = (if 0 < x1 then (if (shv (M0 Ls) w (adr x1)).1 = 3 then (arN (M0 Ls) w (cv (M0 Ls) w (adr x1) 3) 100 100 100 none (fun s1 sn1 => (if s1 ≠ 72 ∧ (0 : Int) ≤ 8 ∧ (0 : Int) ≤ 0 ∧ (0 : Int) ≤ 0 ∧ (0 + 8 : Int) ≤ ((sn1 : Nat) : Int) ∧ (0 + 8 : Int) ≤ ((8 : Nat) : Int) ∧ 0 ≤ 8 then Lm P0 (M0 Ls) d m_Rock_copyFrom 47 [some (.inr (.inr 72)), some (.inr (.inr x1))] [] (wcp w s1 0 72 0 8) else none))) else none) else none) := by
  rw [Lm_unf P0 (M0 Ls) sp_88_1 10]
  rfl
set_option maxRecDepth 100000 in
theorem E_88_47_1 (Ls d : Nat) (x1 : Int) (w : AW) : Lm P0 (M0 Ls) d m_Rock_copyFrom 47 [some (.inr (.inr 72)), some (.inr (.inr x1))] [] w = (if 0 < x1 then (if (shv (M0 Ls) w (adr x1)).1 = 3 then (arN (M0 Ls) w (cv (M0 Ls) w (adr x1) 4) 100 100 100 none (fun s1 sn1 => (if s1 ≠ 73 ∧ (0 : Int) ≤ 8 ∧ (0 : Int) ≤ 0 ∧ (0 : Int) ≤ 0 ∧ (0 + 8 : Int) ≤ ((sn1 : Nat) : Int) ∧ (0 + 8 : Int) ≤ ((8 : Nat) : Int) ∧ 0 ≤ 8 then Lm P0 (M0 Ls) d m_Rock_copyFrom 62 [some (.inr (.inr 72)), some (.inr (.inr x1))] [] (wcp w s1 0 73 0 8) else none))) else none) else none) := by
  rw [Lm_unf P0 (M0 Ls) sp_88_1 10]
  rfl
set_option maxRecDepth 100000 in
theorem E_88_62_1 (Ls d : Nat) (x1 : Int) (w : AW) : Lm P0 (M0 Ls) d m_Rock_copyFrom 62 [some (.inr (.inr 72)), some (.inr (.inr x1))] [] w = (if 0 < x1 then (if (shv (M0 Ls) w (adr x1)).1 = 3 then (arN (M0 Ls) w (cv (M0 Ls) w (adr x1) 5) 100 100 100 none (fun s1 sn1 => (if s1 ≠ 74 ∧ (0 : Int) ≤ 8 ∧ (0 : Int) ≤ 0 ∧ (0 : Int) ≤ 0 ∧ (0 + 8 : Int) ≤ ((sn1 : Nat) : Int) ∧ (0 + 8 : Int) ≤ ((8 : Nat) : Int) ∧ 0 ≤ 8 then Lm P0 (M0 Ls) d m_Rock_copyFrom 77 [some (.inr (.inr 72)), some (.inr (.inr x1))] [] (wcp w s1 0 74 0 8) else none))) else none) else none) := by
  rw [Lm_unf P0 (M0 Ls) sp_88_1 10]
  rfl
set_option maxRecDepth 100000 in
theorem E_88_77_1 (Ls d : Nat) (x1 : Int) (w : AW) : Lm P0 (M0 Ls) d m_Rock_copyFrom 77 [some (.inr (.inr 72)), some (.inr (.inr x1))] [] w = (if 0 < x1 then (if (shv (M0 Ls) w (adr x1)).1 = 3 then (arN (M0 Ls) w (cv (M0 Ls) w (adr x1) 6) 100 100 100 none (fun s1 sn1 => (if s1 ≠ 75 ∧ (0 : Int) ≤ 8 ∧ (0 : Int) ≤ 0 ∧ (0 : Int) ≤ 0 ∧ (0 + 8 : Int) ≤ ((sn1 : Nat) : Int) ∧ (0 + 8 : Int) ≤ ((8 : Nat) : Int) ∧ 0 ≤ 8 then Lm P0 (M0 Ls) d m_Rock_copyFrom 92 [some (.inr (.inr 72)), some (.inr (.inr x1))] [] (wcp w s1 0 75 0 8) else none))) else none) else none) := by
  rw [Lm_unf P0 (M0 Ls) sp_88_1 10]
  rfl
set_option maxRecDepth 100000 in
theorem E_88_92_1 (Ls d : Nat) (x1 : Int) (w : AW) : Lm P0 (M0 Ls) d m_Rock_copyFrom 92 [some (.inr (.inr 72)), some (.inr (.inr x1))] [] w = (if 0 < x1 then (if (shv (M0 Ls) w (adr x1)).1 = 3 then (arN (M0 Ls) w (cv (M0 Ls) w (adr x1) 7) 100 100 100 none (fun s1 sn1 => (if s1 ≠ 76 ∧ (0 : Int) ≤ 8 ∧ (0 : Int) ≤ 0 ∧ (0 : Int) ≤ 0 ∧ (0 + 8 : Int) ≤ ((sn1 : Nat) : Int) ∧ (0 + 8 : Int) ≤ ((8 : Nat) : Int) ∧ 0 ≤ 8 then Lm P0 (M0 Ls) d m_Rock_copyFrom 107 [some (.inr (.inr 72)), some (.inr (.inr x1))] [] (wcp w s1 0 76 0 8) else none))) else none) else none) := by
  rw [Lm_unf P0 (M0 Ls) sp_88_1 10]
  rfl
set_option maxRecDepth 100000 in
theorem E_88_107_1 (Ls d : Nat) (x1 : Int) (w : AW) : Lm P0 (M0 Ls) d m_Rock_copyFrom 107 [some (.inr (.inr 72)), some (.inr (.inr x1))] [] w = (if 0 < x1 then (if (shv (M0 Ls) w (adr x1)).1 = 3 then (arN (M0 Ls) w (cv (M0 Ls) w (adr x1) 8) 100 100 100 none (fun s1 sn1 => (if s1 ≠ 77 ∧ (0 : Int) ≤ 3 ∧ (0 : Int) ≤ 0 ∧ (0 : Int) ≤ 0 ∧ (0 + 3 : Int) ≤ ((sn1 : Nat) : Int) ∧ (0 + 3 : Int) ≤ ((3 : Nat) : Int) ∧ 0 ≤ 8 then Lm P0 (M0 Ls) d m_Rock_copyFrom 121 [some (.inr (.inr 72)), some (.inr (.inr x1))] [] (wcp w s1 0 77 0 3) else none))) else none) else none) := by
  rw [Lm_unf P0 (M0 Ls) sp_88_1 10]
  rfl
set_option maxRecDepth 100000 in
theorem E_88_121_1 (Ls d : Nat) (x1 : Int) (w : AW) : Lm P0 (M0 Ls) d m_Rock_copyFrom 121 [some (.inr (.inr 72)), some (.inr (.inr x1))] [] w = (if 0 < x1 then (if (shv (M0 Ls) w (adr x1)).1 = 3 then (arN (M0 Ls) w (cv (M0 Ls) w (adr x1) 9) 100 100 100 none (fun s1 sn1 => (if s1 ≠ 78 ∧ (0 : Int) ≤ 8 ∧ (0 : Int) ≤ 0 ∧ (0 : Int) ≤ 0 ∧ (0 + 8 : Int) ≤ ((sn1 : Nat) : Int) ∧ (0 + 8 : Int) ≤ ((8 : Nat) : Int) ∧ 0 ≤ 8 then Lm P0 (M0 Ls) d m_Rock_copyFrom 136 [some (.inr (.inr 72)), some (.inr (.inr x1))] [] (wcp w s1 0 78 0 8) else none))) else none) else none) := by
  rw [Lm_unf P0 (M0 Ls) sp_88_1 10]
  rfl
set_option maxRecDepth 100000 in
theorem E_88_136_1 (Ls d : Nat) (x1 : Int) (w : AW) : Lm P0 (M0 Ls) d m_Rock_copyFrom 136 [some (.inr (.inr 72)), some (.inr (.inr x1))] [] w = (if 0 < x1 then (if (shv (M0 Ls) w (adr x1)).1 = 3 then (arN (M0 Ls) w (cv (M0 Ls) w (adr x1) 10) 100 100 100 none (fun s1 sn1 => (if s1 ≠ 79 ∧ (0 : Int) ≤ 8 ∧ (0 : Int) ≤ 0 ∧ (0 : Int) ≤ 0 ∧ (0 + 8 : Int) ≤ ((sn1 : Nat) : Int) ∧ (0 + 8 : Int) ≤ ((8 : Nat) : Int) ∧ 0 ≤ 8 then Lm P0 (M0 Ls) d m_Rock_copyFrom 151 [some (.inr (.inr 72)), some (.inr (.inr x1))] [] (wcp w s1 0 79 0 8) else none))) else none) else none) := by
  rw [Lm_unf P0 (M0 Ls) sp_88_1 10]
  rfl
set_option maxRecDepth 100000 in
theorem E_88_151_1 (Ls d : Nat) (x1 : Int) (w : AW) : Lm P0 (M0 Ls) d m_Rock_copyFrom 151 [some (.inr (.inr 72)), some (.inr (.inr x1))] [] w = (if 0 < x1 then (if (shv (M0 Ls) w (adr x1)).1 = 3 then (arN (M0 Ls) w (cv (M0 Ls) w (adr x1) 11) 100 100 100 none (fun s1 sn1 => (if s1 ≠ 80 ∧ (0 : Int) ≤ (rd w 71 12) ∧ (0 : Int) ≤ 0 ∧ (0 : Int) ≤ 0 ∧ (0 + (rd w 71 12) : Int) ≤ ((sn1 : Nat) : Int) ∧ (0 + (rd w 71 12) : Int) ≤ ((1000 : Nat) : Int) ∧ 0 ≤ 8 then Lm P0 (M0 Ls) d m_Rock_copyFrom 168 [some (.inr (.inr 72)), some (.inr (.inr x1))] [] (wcp w s1 0 80 0 (rd w 71 12)) else none))) else none) else none) := by
  rw [Lm_unf P0 (M0 Ls) sp_88_1 11]
  rfl
set_option maxRecDepth 100000 in
theorem E_88_168_1 (Ls d : Nat) (x1 : Int) (w : AW) : Lm P0 (M0 Ls) d m_Rock_copyFrom 168 [some (.inr (.inr 72)), some (.inr (.inr x1))] [] w = some (none, w) := by
  rw [Lm_unf P0 (M0 Ls) sp_88_1 2]
  rfl
def sp_88_z : Nat → Bool := fun q => [0, 8, 16, 24, 32, 47, 62, 77, 92, 107, 121, 136, 151, 168].contains q
set_option maxRecDepth 100000 in
theorem E_88_0_z (Ls d : Nat) (z0 p1 : Int) (w : AW) : Lm P0 (M0 Ls) d m_Rock_copyFrom 0 [some (.inr (.inr z0)), some (.inr (.inr p1))] [] w = (if 0 < p1 then (if (shv (M0 Ls) w (adr p1)).1 = 3 then (if 0 < z0 then (if (shv (M0 Ls) w (adr z0)).1 = 3 then (if adr z0 < (M0 Ls).1 ∧ ¬ (M0 Ls).2.2 (adr z0) 0 = 0 then none else Lm P0 (M0 Ls) d m_Rock_copyFrom 8 [some (.inr (.inr z0)), some (.inr (.inr p1))] [] (wC w (adr z0) 0 (cv (M0 Ls) w (adr p1) 0))) else none) else none) else none) else none) := by
  rw [Lm_unf P0 (M0 Ls) sp_88_z 6]
  rfl
set_option maxRecDepth 100000 in
theorem E_88_8_z (Ls d : Nat) (x0 x1 : Int) (w : AW) : Lm P0 (M0 Ls) d m_Rock_copyFrom 8 [some (.inr (.inr x0)), some (.inr (.inr x1))] [] w = (if 0 < x1 then (if (shv (M0 Ls) w (adr x1)).1 = 3 then (if 0 < x0 then (if (shv (M0 Ls) w (adr x0)).1 = 3 then (if adr x0 < (M0 Ls).1 ∧ ¬ (M0 Ls).2.2 (adr x0) 1 = 0 then none else Lm P0 (M0 Ls) d m_Rock_copyFrom 16 [some (.inr (.inr x0)), some (.inr (.inr x1))] [] (wC w (adr x0) 1 (cv (M0 Ls) w (adr x1) 1))) else none) else none) else none) else none) := by
  rw [Lm_unf P0 (M0 Ls) sp_88_z 6]
  rfl
set_option maxRecDepth 100000 in
theorem E_88_16_z (Ls d : Nat) (x0 x1 : Int) (w : AW) : Lm P0 (M0 Ls) d m_Rock_copyFrom 16 [some (.inr (.inr x0)), some (.inr (.inr x1))] [] w = (if 0 < x1 then (if (shv (M0 Ls) w (adr x1)).1 = 3 then (if 0 < x0 then (if (shv (M0 Ls) w (adr x0)).1 = 3 then (if adr x0 < (M0 Ls).1 ∧ ¬ (M0 Ls).2.2 (adr x0) 2 = 0 then none else Lm P0 (M0 Ls) d m_Rock_copyFrom 24 [some (.inr (.inr x0)), some (.inr (.inr x1))] [] (wC w (adr x0) 2 (cv (M0 Ls) w (adr x1) 2))) else none) else none) else none) else none) := by
  rw [Lm_unf P0 (M0 Ls) sp_88_z 6]
  rfl
set_option maxRecDepth 100000 in
theorem E_88_24_z (Ls d : Nat) (x0 x1 : Int) (w : AW) : Lm P0 (M0 Ls) d m_Rock_copyFrom 24 [some (.inr (.inr x0)), some (.inr (.inr x1))] [] w = (if 0 < x1 then (if (shv (M0 Ls) w (adr x1)).1 = 3 then (if 0 < x0 then (if (shv (M0 Ls) w (adr x0)).1 = 3 then (if adr x0 < (M0 Ls).1 ∧ ¬ (M0 Ls).2.2 (adr x0) 12 = 0 then none else Lm P0 (M0 Ls) d m_Rock_copyFrom 32 [some (.inr (.inr x0)), some (.inr (.inr x1))] [] (wC w (adr x0) 12 (cv (M0 Ls) w (adr x1) 12))) else none) else none) else none) else none) := by
  rw [Lm_unf P0 (M0 Ls) sp_88_z 6]
  rfl
set_option maxRecDepth 100000 in
theorem E_88_32_z (Ls d : Nat) (x0 x1 : Int) (w : AW) : Lm P0 (M0 Ls) d m_Rock_copyFrom 32 [some (.inr (.inr x0)), some (.inr (.inr x1))] [] w = (if 0 < x1 then (if (shv (M0 Ls) w (adr x1)).1 = 3 then (if 0 < x0 then (if (shv (M0 Ls) w (adr x0)).1 = 3 then (arN (M0 Ls) w (cv (M0 Ls) w (adr x1) 3) 100 100 100 none (fun s1 sn1 => (arN (M0 Ls) w (cv (M0 Ls) w (adr x0) 3) 100 100 100 none (fun t1 tn1 => (if s1 ≠ t1 ∧ (0 : Int) ≤ 8 ∧ (0 : Int) ≤ 0 ∧ (0 : Int) ≤ 0 ∧ (0 + 8 : Int) ≤ ((sn1 : Nat) : Int) ∧ (0 + 8 : Int) ≤ ((tn1 : Nat) : Int) ∧ 0 ≤ 8 then Lm P0 (M0 Ls) d m_Rock_copyFrom 47 [some (.inr (.inr x0)), some (.inr (.inr x1))] [] (wcp w s1 0 t1 0 8) else none))))) else none) else none) else none) else none) := by
  rw [Lm_unf P0 (M0 Ls) sp_88_z 10]
  rfl
set_option maxRecDepth 100000 in
theorem E_88_47_z (Ls d : Nat) (x0 x1 : Int) (w : AW) : Lm P0 (M0 Ls) d m_Rock_copyFrom 47 [some (.inr (.inr x0)), some (.inr (.inr x1))] [] w = (if 0 < x1 then (if (shv (M0 Ls) w (adr x1)).1 = 3 then (if 0 < x0 then (if (shv (M0 Ls) w (adr x0)).1 = 3 then (arN (M0 Ls) w (cv (M0 Ls) w (adr x1) 4) 100 100 100 none (fun s1 sn1 => (arN (M0 Ls) w (cv (M0 Ls) w (adr x0) 4) 100 100 100 none (fun t1 tn1 => (if s1 ≠ t1 ∧ (0 : Int) ≤ 8 ∧ (0 : Int) ≤ 0 ∧ (0 : Int) ≤ 0 ∧ (0 + 8 : Int) ≤ ((sn1 : Nat) : Int) ∧ (0 + 8 : Int) ≤ ((tn1 : Nat) : Int) ∧ 0 ≤ 8 then Lm P0 (M0 Ls) d m_Rock_copyFrom 62 [some (.inr (.inr x0)), some (.inr (.inr x1))] [] (wcp w s1 0 t1 0 8) else none))))) else none) else none) else none) else none) := by
  rw [Lm_unf P0 (M0 Ls) sp_88_z 10]
  rfl
set_option maxRecDepth 100000 in
theorem E_88_62_z (Ls d : Nat) (x0 x1 : Int) (w : AW) : Lm P0 (M0 Ls) d m_Rock_copyFrom 62 [some (.inr (.inr x0)), some (.inr (.inr x1))] [] w = (if 0 < x1 then (if (shv (M0 Ls) w (adr x1)).1 = 3 then (if 0 < x0 then (if (shv (M0 Ls) w (adr x0)).1 = 3 then (arN (M0 Ls) w (cv (M0 Ls) w (adr x1) 5) 100 100 100 none (fun s1 sn1 => (arN (M0 Ls) w (cv (M0 Ls) w (adr x0) 5) 100 100 100 none (fun t1 tn1 => (if s1 ≠ t1 ∧ (0 : Int) ≤ 8 ∧ (0 : Int) ≤ 0 ∧ (0 : Int) ≤ 0 ∧ (0 + 8 : Int) ≤ ((sn1 : Nat) : Int) ∧ (0 + 8 : Int) ≤ ((tn1 : Nat) : Int) ∧ 0 ≤ 8 then Lm P0 (M0 Ls) d m_Rock_copyFrom 77 [some (.inr (.inr x0)), some (.inr (.inr x1))] [] (wcp w s1 0 t1 0 8) else none))))) else none) else none) else none) else none) := by
  rw [Lm_unf P0 (M0 Ls) sp_88_z 10]
  rfl
set_option maxRecDepth 100000 in
theorem E_88_77_z (Ls d : Nat) (x0 x1 : Int) (w : AW) : Lm P0 (M0 Ls) d m_Rock_copyFrom 77 [some (.inr (.inr x0)), some (.inr (.inr x1))] [] w = (if 0 < x1 then (if (shv (M0 Ls) w (adr x1)).1 = 3 then (if 0 < x0 then (if (shv (M0 Ls) w (adr x0)).1 = 3 then (arN (M0 Ls) w (cv (M0 Ls) w (adr x1) 6) 100 100 100 none (fun s1 sn1 => (arN (M0 Ls) w (cv (M0 Ls) w (adr x0) 6) 100 100 100 none (fun t1 tn1 => (if s1 ≠ t1 ∧ (0 : Int) ≤ 8 ∧ (0 : Int) ≤ 0 ∧ (0 : Int) ≤ 0 ∧ (0 + 8 : Int) ≤ ((sn1 : Nat) : Int) ∧ (0 + 8 : Int) ≤ ((tn1 : Nat) : Int) ∧ 0 ≤ 8 then Lm P0 (M0 Ls) d m_Rock_copyFrom 92 [some (.inr (.inr x0)), some (.inr (.inr x1))] [] (wcp w s1 0 t1 0 8) else none))))) else none) else none) else none) else none) := by
  rw [Lm_unf P0 (M0 Ls) sp_88_z 10]
  rfl
set_option maxRecDepth 100000 in
theorem E_88_92_z (Ls d : Nat) (x0 x1 : Int) (w : AW) : Lm P0 (M0 Ls) d m_Rock_copyFrom 92 [some (.inr (.inr x0)), some (.inr (.inr x1))] [] w = (if 0 < x1 then (if (shv (M0 Ls) w (adr x1)).1 = 3 then (if 0 < x0 then (if (shv (M0 Ls) w (adr x0)).1 = 3 then (arN (M0 Ls) w (cv (M0 Ls) w (adr x1) 7) 100 100 100 none (fun s1 sn1 => (arN (M0 Ls) w (cv (M0 Ls) w (adr x0) 7) 100 100 100 none (fun t1 tn1 => (if s1 ≠ t1 ∧ (0 : Int) ≤ 8 ∧ (0 : Int) ≤ 0 ∧ (0 : Int) ≤ 0 ∧ (0 + 8 : Int) ≤ ((sn1 : Nat) : Int) ∧ (0 + 8 : Int) ≤ ((tn1 : Nat) : Int) ∧ 0 ≤ 8 then Lm P0 (M0 Ls) d m_Rock_copyFrom 107 [some (.inr (.inr x0)), some (.inr (.inr x1))] [] (wcp w s1 0 t1 0 8) else none))))) else none) else none) else none) else none) := by
  rw [Lm_unf P0 (M0 Ls) sp_88_z 10]
  rfl
set_option maxRecDepth 100000 in
theorem E_88_107_z (Ls d : Nat) (x0 x1 : Int) (w : AW) : Lm P0 (M0 Ls) d m_Rock_copyFrom 107 [some (.inr (.inr x0)), some (.inr (.inr x1))] [] w = (if 0 < x1 then (if (shv (M0 Ls) w (adr x1)).1 = 3 then (if 0 < x0 then (if (shv (M0 Ls) w (adr x0)).1 = 3 then (arN (M0 Ls) w (cv (M0 Ls) w (adr x1) 8) 100 100 100 none (fun s1 sn1 => (arN (M0 Ls) w (cv (M0 Ls) w (adr x0) 8) 100 100 100 none (fun t1 tn1 => (if s1 ≠ t1 ∧ (0 : Int) ≤ 3 ∧ (0 : Int) ≤ 0 ∧ (0 : Int) ≤ 0 ∧ (0 + 3 : Int) ≤ ((sn1 : Nat) : Int) ∧ (0 + 3 : Int) ≤ ((tn1 : Nat) : Int) ∧ 0 ≤ 8 then Lm P0 (M0 Ls) d m_Rock_copyFrom 121 [some (.inr (.inr x0)), some (.inr (.inr x1))] [] (wcp w s1 0 t1 0 3) else none))))) else none) else none) else none) else none) := by
  rw [Lm_unf P0 (M0 Ls) sp_88_z 10]
  rfl
set_option maxRecDepth 100000 in
theorem E_88_121_z (Ls d : Nat) (x0 x1 : Int) (w : AW) : Lm P0 (M0 Ls) d m_Rock_copyFrom 121 [some (.inr (.inr x0)), some (.inr (.inr x1))] [] w = (if 0 < x1 then (if (shv (M0 Ls) w (adr x1)).1 = 3 then (if 0 < x0 then (if (shv (M0 Ls) w (adr x0)).1 = 3 then (arN (M0 Ls) w (cv (M0 Ls) w (adr x1) 9) 100 100 100 none (fun s1 sn1 => (arN (M0 Ls) w (cv (M0 Ls) w (adr x0) 9) 100 100 100 none (fun t1 tn1 => (if s1 ≠ t1 ∧ (0 : Int) ≤ 8 ∧ (0 : Int) ≤ 0 ∧ (0 : Int) ≤ 0 ∧ (0 + 8 : Int) ≤ ((sn1 : Nat) : Int) ∧ (0 + 8 : Int) ≤ ((tn1 : Nat) : Int) ∧ 0 ≤ 8 then Lm P0 (M0 Ls) d m_Rock_copyFrom 136 [some (.inr (.inr x0)), some (.inr (.inr x1))] [] (wcp w s1 0 t1 0 8) else none))))) else none) else none) else none) else none) := by
  rw [Lm_unf P0 (M0 Ls) sp_88_z 10]
  rfl
set_option maxRecDepth 100000 in
theorem E_88_136_z (Ls d : Nat) (x0 x1 : Int) (w : AW) : Lm P0 (M0 Ls) d m_Rock_copyFrom 136 [some (.inr (.inr x0)), some (.inr (.inr x1))] [] w = (if 0 < x1 then (if (shv (M0 Ls) w (adr x1)).1 = 3 then (if 0 < x0 then (if (shv (M0 Ls) w (adr x0)).1 = 3 then (arN (M0 Ls) w (cv (M0 Ls) w (adr x1) 10) 100 100 100 none (fun s1 sn1 => (arN (M0 Ls) w (cv (M0 Ls) w (adr x0) 10) 100 100 100 none (fun t1 tn1 => (if s1 ≠ t1 ∧ (0 : Int) ≤ 8 ∧ (0 : Int) ≤ 0 ∧ (0 : Int) ≤ 0 ∧ (0 + 8 : Int) ≤ ((sn1 : Nat) : Int) ∧ (0 + 8 : Int) ≤ ((tn1 : Nat) : Int) ∧ 0 ≤ 8 then Lm P0 (M0 Ls) d m_Rock_copyFrom 151 [some (.inr (.inr x0)), some (.inr (.inr x1))] [] (wcp w s1 0 t1 0 8) else none))))) else none) else none) else none) else none) := by
  rw [Lm_unf P0 (M0 Ls) sp_88_z 10]
  rfl
set_option maxRecDepth 100000 in
theorem E_88_151_z (Ls d : Nat) (x0 x1 : Int) (w : AW) : Lm P0 (M0 Ls) d m_Rock_copyFrom 151 [some (.inr (.inr x0)), some (.inr (.inr x1))] [] w = (if 0 < x1 then (if (shv (M0 Ls) w (adr x1)).1 = 3 then (if 0 < x0 then (if (shv (M0 Ls) w (adr x0)).1 = 3 then (if 0 < x0 then (if (shv (M0 Ls) w (adr x0)).1 = 3 then (arN (M0 Ls) w (cv (M0 Ls) w (adr x1) 11) 100 100 100 none (fun s1 sn1 => (arN (M0 Ls) w (cv (M0 Ls) w (adr x0) 11) 100 100 100 none (fun t1 tn1 => (if s1 ≠ t1 ∧ (0 : Int) ≤ (cv (M0 Ls) w (adr x0) 12) ∧ (0 : Int) ≤ 0 ∧ (0 : Int) ≤ 0 ∧ (0 + (cv (M0 Ls) w (adr x0) 12) : Int) ≤ ((sn1 : Nat) : Int) ∧ (0 + (cv (M0 Ls) w (adr x0) 12) : Int) ≤ ((tn1 : Nat) : Int) ∧ 0 ≤ 8 then Lm P0 (M0 Ls) d m_Rock_copyFrom 168 [some (.inr (.inr x0)), some (.inr (.inr x1))] [] (wcp w s1 0 t1 0 (cv (M0 Ls) w (adr x0) 12)) else none))))) else none) else none) else none) else none) else none) else none) := by
  rw [Lm_unf P0 (M0 Ls) sp_88_z 11]
  rfl
set_option maxRecDepth 100000 in
theorem E_88_168_z (Ls d : Nat) (x0 x1 : Int) (w : AW) : Lm P0 (M0 Ls) d m_Rock_copyFrom 168 [some (.inr (.inr x0)), some (.inr (.inr x1))] [] w = some (none, w) := by
  rw [Lm_unf P0 (M0 Ls) sp_88_z 2]
  rfl
def sp_89 : Nat → Bool := fun q => [0, 30].contains q
set_option maxRecDepth 100000 in
theorem E_89_0 (Ls d : Nat) (p1 : Int) (w : AW) : Lm P0 (M0 Ls) d m_Rock_emit 0 [some (.inr (.inr 58)), some (.inl p1)] [] w = (if (rd w 57 12) < 1000 then (if 0 ≤ (rd w 57 12) ∧ (rd w 57 12) < 1000 then Lm P0 (M0 Ls) d m_Rock_emit 30 [some (.inr (.inr 58)), some (.inl p1)] [] (wC (wC w 66 (rd w 57 12) p1) 57 12 (w32 ((rd (wC w 66 (rd w 57 12) p1) 57 12) + 1))) else none) else Lm P0 (M0 Ls) d m_Rock_emit 30 [some (.inr (.inr 58)), some (.inl p1)] [] w) := by
  rw [Lm_unf P0 (M0 Ls) sp_89 18]
  rfl
set_option maxRecDepth 100000 in
theorem E_89_30 (Ls d : Nat) (x1 : Int) (w : AW) : Lm P0 (M0 Ls) d m_Rock_emit 30 [some (.inr (.inr 58)), some (.inl x1)] [] w = some (none, w) := by
  rw [Lm_unf P0 (M0 Ls) sp_89 2]
  rfl
def sp_89_1 : Nat → Bool := fun q => [0, 30].contains q
set_option maxRecDepth 100000 in
theorem E_89_0_1 (Ls d : Nat) (p1 : Int) (w : AW) : Lm P0 (M0 Ls) d m_Rock_emit 0 [some (.inr (.inr 72)), some (.inl p1)] [] w = (if (rd w 71 12) < 1000 then (if 0 ≤ (rd w 71 12) ∧ (rd w 71 12) < 1000 then Lm P0 (M0 Ls) d m_Rock_emit 30 [some (.inr (.inr 72)), some (.inl p1)] [] (wC (wC w 80 (rd w 71 12) p1) 71 12 (w32 ((rd (wC w 80 (rd w 71 12) p1) 71 12) + 1))) else none) else Lm P0 (M0 Ls) d m_Rock_emit 30 [some (.inr (.inr 72)), some (.inl p1)] [] w) := by
  rw [Lm_unf P0 (M0 Ls) sp_89_1 18]
  rfl
set_option maxRecDepth 100000 in
theorem E_89_30_1 (Ls d : Nat) (x1 : Int) (w : AW) : Lm P0 (M0 Ls) d m_Rock_emit 30 [some (.inr (.inr 72)), some (.inl x1)] [] w = some (none, w) := by
  rw [Lm_unf P0 (M0 Ls) sp_89_1 2]
  rfl
def sp_90 : Nat → Bool := fun q => [0, 20, 21].contains q
set_option maxRecDepth 100000 in
theorem E_90_0 (Ls d : Nat) (p1 : Int) (w : AW) : Lm P0 (M0 Ls) d m_Rock_strongAt 0 [some (.inr (.inr 58)), some (.inl p1)] [] w = (if 0 < (rd w 57 1) then if (rd w 57 1) = 0 then none else (if (Int.tmod p1 (rd w 57 1)) = 0 then Lm P0 (M0 Ls) d m_Rock_strongAt 21 [some (.inr (.inr 58)), some (.inl p1)] [.inl 1] w else Lm P0 (M0 Ls) d m_Rock_strongAt 20 [some (.inr (.inr 58)), some (.inl p1)] [] w) else Lm P0 (M0 Ls) d m_Rock_strongAt 20 [some (.inr (.inr 58)), some (.inl p1)] [] w) := by
  rw [Lm_unf P0 (M0 Ls) sp_90 12]
  rfl
set_option maxRecDepth 100000 in
theorem E_90_20 (Ls d : Nat) (x1 : Int) (w : AW) : Lm P0 (M0 Ls) d m_Rock_strongAt 20 [some (.inr (.inr 58)), some (.inl x1)] [] w = Lm P0 (M0 Ls) d m_Rock_strongAt 21 [some (.inr (.inr 58)), some (.inl x1)] [.inl 0] w := by
  rw [Lm_unf P0 (M0 Ls) sp_90 3]
  rfl
set_option maxRecDepth 100000 in
theorem E_90_21 (Ls d : Nat) (x1 y0 : Int) (w : AW) : Lm P0 (M0 Ls) d m_Rock_strongAt 21 [some (.inr (.inr 58)), some (.inl x1)] [.inl y0] w = some (some (.inl y0), w) := by
  rw [Lm_unf P0 (M0 Ls) sp_90 2]
  rfl
def sp_90_1 : Nat → Bool := fun q => [0, 20, 21].contains q
set_option maxRecDepth 100000 in
theorem E_90_0_1 (Ls d : Nat) (p1 : Int) (w : AW) : Lm P0 (M0 Ls) d m_Rock_strongAt 0 [some (.inr (.inr 72)), some (.inl p1)] [] w = (if 0 < (rd w 71 1) then if (rd w 71 1) = 0 then none else (if (Int.tmod p1 (rd w 71 1)) = 0 then Lm P0 (M0 Ls) d m_Rock_strongAt 21 [some (.inr (.inr 72)), some (.inl p1)] [.inl 1] w else Lm P0 (M0 Ls) d m_Rock_strongAt 20 [some (.inr (.inr 72)), some (.inl p1)] [] w) else Lm P0 (M0 Ls) d m_Rock_strongAt 20 [some (.inr (.inr 72)), some (.inl p1)] [] w) := by
  rw [Lm_unf P0 (M0 Ls) sp_90_1 12]
  rfl
set_option maxRecDepth 100000 in
theorem E_90_20_1 (Ls d : Nat) (x1 : Int) (w : AW) : Lm P0 (M0 Ls) d m_Rock_strongAt 20 [some (.inr (.inr 72)), some (.inl x1)] [] w = Lm P0 (M0 Ls) d m_Rock_strongAt 21 [some (.inr (.inr 72)), some (.inl x1)] [.inl 0] w := by
  rw [Lm_unf P0 (M0 Ls) sp_90_1 3]
  rfl
set_option maxRecDepth 100000 in
theorem E_90_21_1 (Ls d : Nat) (x1 y0 : Int) (w : AW) : Lm P0 (M0 Ls) d m_Rock_strongAt 21 [some (.inr (.inr 72)), some (.inl x1)] [.inl y0] w = some (some (.inl y0), w) := by
  rw [Lm_unf P0 (M0 Ls) sp_90_1 2]
  rfl
def sp_91 : Nat → Bool := fun q => [0, 2, 28].contains q
set_option maxRecDepth 100000 in
theorem E_91_0 (Ls d : Nat) (w : AW) : Lm P0 (M0 Ls) d m_Rock_isPlain 0 [some (.inr (.inr 58)), none] [] w = Lm P0 (M0 Ls) d m_Rock_isPlain 2 [some (.inr (.inr 58)), some (.inl 0)] [] w := by
  rw [Lm_unf P0 (M0 Ls) sp_91 4]
  rfl
set_option maxRecDepth 100000 in
theorem E_91_2 (Ls d : Nat) (x1 : Int) (w : AW) : Lm P0 (M0 Ls) d m_Rock_isPlain 2 [some (.inr (.inr 58)), some (.inl x1)] [] w = (if x1 < (rd w 57 2) then (if 0 ≤ x1 ∧ x1 < 8 then (if (rd w 61 x1) = 0 then (if 0 ≤ x1 ∧ x1 < 8 then (if (rd w 62 x1) = 0 then Lm P0 (M0 Ls) d m_Rock_isPlain 2 [some (.inr (.inr 58)), some (.inl (w32 (x1 + 1)))] [] w else Lm P0 (M0 Ls) d m_Rock_isPlain 28 [some (.inr (.inr 58)), some (.inl x1)] [] w) else none) else Lm P0 (M0 Ls) d m_Rock_isPlain 28 [some (.inr (.inr 58)), some (.inl x1)] [] w) else none) else some (some (.inl 1), w)) := by
  rw [Lm_unf P0 (M0 Ls) sp_91 18]
  rfl
set_option maxRecDepth 100000 in
theorem E_91_28 (Ls d : Nat) (x1 : Int) (w : AW) : Lm P0 (M0 Ls) d m_Rock_isPlain 28 [some (.inr (.inr 58)), some (.inl x1)] [] w = some (some (.inl 0), w) := by
  rw [Lm_unf P0 (M0 Ls) sp_91 3]
  rfl
def sp_91_1 : Nat → Bool := fun q => [0, 2, 28].contains q
set_option maxRecDepth 100000 in
theorem E_91_0_1 (Ls d : Nat) (w : AW) : Lm P0 (M0 Ls) d m_Rock_isPlain 0 [some (.inr (.inr 72)), none] [] w = Lm P0 (M0 Ls) d m_Rock_isPlain 2 [some (.inr (.inr 72)), some (.inl 0)] [] w := by
  rw [Lm_unf P0 (M0 Ls) sp_91_1 4]
  rfl
set_option maxRecDepth 100000 in
theorem E_91_2_1 (Ls d : Nat) (x1 : Int) (w : AW) : Lm P0 (M0 Ls) d m_Rock_isPlain 2 [some (.inr (.inr 72)), some (.inl x1)] [] w = (if x1 < (rd w 71 2) then (if 0 ≤ x1 ∧ x1 < 8 then (if (rd w 75 x1) = 0 then (if 0 ≤ x1 ∧ x1 < 8 then (if (rd w 76 x1) = 0 then Lm P0 (M0 Ls) d m_Rock_isPlain 2 [some (.inr (.inr 72)), some (.inl (w32 (x1 + 1)))] [] w else Lm P0 (M0 Ls) d m_Rock_isPlain 28 [some (.inr (.inr 72)), some (.inl x1)] [] w) else none) else Lm P0 (M0 Ls) d m_Rock_isPlain 28 [some (.inr (.inr 72)), some (.inl x1)] [] w) else none) else some (some (.inl 1), w)) := by
  rw [Lm_unf P0 (M0 Ls) sp_91_1 18]
  rfl
set_option maxRecDepth 100000 in
theorem E_91_28_1 (Ls d : Nat) (x1 : Int) (w : AW) : Lm P0 (M0 Ls) d m_Rock_isPlain 28 [some (.inr (.inr 72)), some (.inl x1)] [] w = some (some (.inl 0), w) := by
  rw [Lm_unf P0 (M0 Ls) sp_91_1 3]
  rfl
def sp_92 : Nat → Bool := fun q => [0, 4, 22].contains q
set_option maxRecDepth 100000 in
theorem E_92_0 (Ls d : Nat) (w : AW) : Lm P0 (M0 Ls) d m_Rock_greatestLate 0 [some (.inr (.inr 58)), none, none] [] w = Lm P0 (M0 Ls) d m_Rock_greatestLate 4 [some (.inr (.inr 58)), some (.inl 0), some (.inl 0)] [] w := by
  rw [Lm_unf P0 (M0 Ls) sp_92 6]
  rfl
set_option maxRecDepth 100000 in
theorem E_92_4 (Ls d : Nat) (x1 x2 : Int) (w : AW) : Lm P0 (M0 Ls) d m_Rock_greatestLate 4 [some (.inr (.inr 58)), some (.inl x1), some (.inl x2)] [] w = (if x2 < (rd w 57 2) then (if 0 ≤ x2 ∧ x2 < 8 then Lk P0 (M0 Ls) d m_Math_max [.inl x1, .inl (rd w 58 x2)] w (fun r_ w_ => Lm P0 (M0 Ls) d m_Rock_greatestLate 22 [some (.inr (.inr 58)), some (.inl x1), some (.inl x2)] (r_.toList ++ []) w_) else none) else some (some (.inl x1), w)) := by
  rw [Lm_unf P0 (M0 Ls) sp_92 11]
  rfl
set_option maxRecDepth 100000 in
theorem E_92_22 (Ls d : Nat) (x1 x2 y0 : Int) (w : AW) : Lm P0 (M0 Ls) d m_Rock_greatestLate 22 [some (.inr (.inr 58)), some (.inl x1), some (.inl x2)] [.inl y0] w = Lm P0 (M0 Ls) d m_Rock_greatestLate 4 [some (.inr (.inr 58)), some (.inl y0), some (.inl (w32 (x2 + 1)))] [] w := by
  rw [Lm_unf P0 (M0 Ls) sp_92 5]
  rfl
def sp_92_1 : Nat → Bool := fun q => [0, 4, 22].contains q
set_option maxRecDepth 100000 in
theorem E_92_0_1 (Ls d : Nat) (w : AW) : Lm P0 (M0 Ls) d m_Rock_greatestLate 0 [some (.inr (.inr 72)), none, none] [] w = Lm P0 (M0 Ls) d m_Rock_greatestLate 4 [some (.inr (.inr 72)), some (.inl 0), some (.inl 0)] [] w := by
  rw [Lm_unf P0 (M0 Ls) sp_92_1 6]
  rfl
set_option maxRecDepth 100000 in
theorem E_92_4_1 (Ls d : Nat) (x1 x2 : Int) (w : AW) : Lm P0 (M0 Ls) d m_Rock_greatestLate 4 [some (.inr (.inr 72)), some (.inl x1), some (.inl x2)] [] w = (if x2 < (rd w 71 2) then (if 0 ≤ x2 ∧ x2 < 8 then Lk P0 (M0 Ls) d m_Math_max [.inl x1, .inl (rd w 72 x2)] w (fun r_ w_ => Lm P0 (M0 Ls) d m_Rock_greatestLate 22 [some (.inr (.inr 72)), some (.inl x1), some (.inl x2)] (r_.toList ++ []) w_) else none) else some (some (.inl x1), w)) := by
  rw [Lm_unf P0 (M0 Ls) sp_92_1 11]
  rfl
set_option maxRecDepth 100000 in
theorem E_92_22_1 (Ls d : Nat) (x1 x2 y0 : Int) (w : AW) : Lm P0 (M0 Ls) d m_Rock_greatestLate 22 [some (.inr (.inr 72)), some (.inl x1), some (.inl x2)] [.inl y0] w = Lm P0 (M0 Ls) d m_Rock_greatestLate 4 [some (.inr (.inr 72)), some (.inl y0), some (.inl (w32 (x2 + 1)))] [] w := by
  rw [Lm_unf P0 (M0 Ls) sp_92_1 5]
  rfl
def sp_93 : Nat → Bool := fun q => [0, 24].contains q
set_option maxRecDepth 100000 in
theorem E_93_0 (Ls d : Nat) (p1 p2 : Int) (w : AW) : Lm P0 (M0 Ls) d m_Rock_givenBack 0 [some (.inr (.inr 58)), some (.inl p1), some (.inl p2)] [] w = (if p2 < 0 then Lm P0 (M0 Ls) d m_Rock_givenBack 24 [some (.inr (.inr 58)), some (.inl p1), some (.inl p2)] [.inl (-1000000)] w else (if 0 ≤ p1 ∧ p1 < 8 then (if 0 ≤ p1 ∧ p1 < 8 then Lm P0 (M0 Ls) d m_Rock_givenBack 24 [some (.inr (.inr 58)), some (.inl p1), some (.inl p2)] [.inl (w32 ((w32 ((rd w 59 p1) * p2)) + (rd w 60 p1)))] w else none) else none)) := by
  rw [Lm_unf P0 (M0 Ls) sp_93 15]
  rfl
set_option maxRecDepth 100000 in
theorem E_93_24 (Ls d : Nat) (x1 x2 y0 : Int) (w : AW) : Lm P0 (M0 Ls) d m_Rock_givenBack 24 [some (.inr (.inr 58)), some (.inl x1), some (.inl x2)] [.inl y0] w = some (some (.inl y0), w) := by
  rw [Lm_unf P0 (M0 Ls) sp_93 2]
  rfl
def sp_93_1 : Nat → Bool := fun q => [0, 24].contains q
set_option maxRecDepth 100000 in
theorem E_93_0_1 (Ls d : Nat) (p1 p2 : Int) (w : AW) : Lm P0 (M0 Ls) d m_Rock_givenBack 0 [some (.inr (.inr 72)), some (.inl p1), some (.inl p2)] [] w = (if p2 < 0 then Lm P0 (M0 Ls) d m_Rock_givenBack 24 [some (.inr (.inr 72)), some (.inl p1), some (.inl p2)] [.inl (-1000000)] w else (if 0 ≤ p1 ∧ p1 < 8 then (if 0 ≤ p1 ∧ p1 < 8 then Lm P0 (M0 Ls) d m_Rock_givenBack 24 [some (.inr (.inr 72)), some (.inl p1), some (.inl p2)] [.inl (w32 ((w32 ((rd w 73 p1) * p2)) + (rd w 74 p1)))] w else none) else none)) := by
  rw [Lm_unf P0 (M0 Ls) sp_93_1 15]
  rfl
set_option maxRecDepth 100000 in
theorem E_93_24_1 (Ls d : Nat) (x1 x2 y0 : Int) (w : AW) : Lm P0 (M0 Ls) d m_Rock_givenBack 24 [some (.inr (.inr 72)), some (.inl x1), some (.inl x2)] [.inl y0] w = some (some (.inl y0), w) := by
  rw [Lm_unf P0 (M0 Ls) sp_93_1 2]
  rfl
def sp_94 : Nat → Bool := fun q => [0, 24, 66, 89, 90].contains q
set_option maxRecDepth 100000 in
theorem E_94_0 (Ls d : Nat) (p1 p2 : Int) (w : AW) : Lm P0 (M0 Ls) d m_Rock_sourceOf 0 [some (.inr (.inr 58)), some (.inl p1), some (.inl p2), none] [] w = (if 0 ≤ p1 ∧ p1 < 8 then (if p2 < (rd w 58 p1) then Lm P0 (M0 Ls) d m_Rock_sourceOf 24 [some (.inr (.inr 58)), some (.inl p1), some (.inl p2), none] [] w else (if 0 ≤ p1 ∧ p1 < 8 then (if 400 < (w32 (p2 - (rd w 58 p1))) then Lm P0 (M0 Ls) d m_Rock_sourceOf 24 [some (.inr (.inr 58)), some (.inl p1), some (.inl p2), none] [] w else (if 0 ≤ p1 ∧ p1 < 8 then (if 0 ≤ p1 ∧ p1 < 8 then (if (rd w 61 p1) = 1 then Lm P0 (M0 Ls) d m_Rock_sourceOf 66 [some (.inr (.inr 58)), some (.inl p1), some (.inl p2), some (.inl (w32 (Int.tdiv (w32 (p2 - (rd w 58 p1))) 2)))] [] w else (if 0 ≤ p1 ∧ p1 < 8 then (if (rd w 61 p1) = 2 then Lm P0 (M0 Ls) d m_Rock_sourceOf 66 [some (.inr (.inr 58)), some (.inl p1), some (.inl p2), some (.inl (w32 ((w32 (p2 - (rd w 58 p1))) * 2)))] [] w else Lm P0 (M0 Ls) d m_Rock_sourceOf 66 [some (.inr (.inr 58)), some (.inl p1), some (.inl p2), some (.inl (w32 (p2 - (rd w 58 p1))))] [] w) else none)) else none) else none)) else none)) else none) := by
  rw [Lm_unf P0 (M0 Ls) sp_94 39]
  rfl
set_option maxRecDepth 100000 in
theorem E_94_24 (Ls d : Nat) (x1 x2 : Int) (w : AW) : Lm P0 (M0 Ls) d m_Rock_sourceOf 24 [some (.inr (.inr 58)), some (.inl x1), some (.inl x2), none] [] w = some (some (.inl (-1)), w) := by
  rw [Lm_unf P0 (M0 Ls) sp_94 3]
  rfl
set_option maxRecDepth 100000 in
theorem E_94_66 (Ls d : Nat) (x1 x2 x3 : Int) (w : AW) : Lm P0 (M0 Ls) d m_Rock_sourceOf 66 [some (.inr (.inr 58)), some (.inl x1), some (.inl x2), some (.inl x3)] [] w = (if 0 ≤ x1 ∧ x1 < 8 then (if 0 < (rd w 62 x1) then (if 0 ≤ x1 ∧ x1 < 8 then (if x3 < (rd w 62 x1) then Lm P0 (M0 Ls) d m_Rock_sourceOf 89 [some (.inr (.inr 58)), some (.inl x1), some (.inl x2), some (.inl x3)] [] w else Lm P0 (M0 Ls) d m_Rock_sourceOf 90 [some (.inr (.inr 58)), some (.inl x1), some (.inl x2), some (.inl x3)] [.inl (-1)] w) else none) else Lm P0 (M0 Ls) d m_Rock_sourceOf 89 [some (.inr (.inr 58)), some (.inl x1), some (.inl x2), some (.inl x3)] [] w) else none) := by
  rw [Lm_unf P0 (M0 Ls) sp_94 15]
  rfl
set_option maxRecDepth 100000 in
theorem E_94_89 (Ls d : Nat) (x1 x2 x3 : Int) (w : AW) : Lm P0 (M0 Ls) d m_Rock_sourceOf 89 [some (.inr (.inr 58)), some (.inl x1), some (.inl x2), some (.inl x3)] [] w = Lm P0 (M0 Ls) d m_Rock_sourceOf 90 [some (.inr (.inr 58)), some (.inl x1), some (.inl x2), some (.inl x3)] [.inl x3] w := by
  rw [Lm_unf P0 (M0 Ls) sp_94 3]
  rfl
set_option maxRecDepth 100000 in
theorem E_94_90 (Ls d : Nat) (x1 x2 x3 y0 : Int) (w : AW) : Lm P0 (M0 Ls) d m_Rock_sourceOf 90 [some (.inr (.inr 58)), some (.inl x1), some (.inl x2), some (.inl x3)] [.inl y0] w = some (some (.inl y0), w) := by
  rw [Lm_unf P0 (M0 Ls) sp_94 2]
  rfl
def sp_94_1 : Nat → Bool := fun q => [0, 24, 66, 89, 90].contains q
set_option maxRecDepth 100000 in
theorem E_94_0_1 (Ls d : Nat) (p1 p2 : Int) (w : AW) : Lm P0 (M0 Ls) d m_Rock_sourceOf 0 [some (.inr (.inr 72)), some (.inl p1), some (.inl p2), none] [] w = (if 0 ≤ p1 ∧ p1 < 8 then (if p2 < (rd w 72 p1) then Lm P0 (M0 Ls) d m_Rock_sourceOf 24 [some (.inr (.inr 72)), some (.inl p1), some (.inl p2), none] [] w else (if 0 ≤ p1 ∧ p1 < 8 then (if 400 < (w32 (p2 - (rd w 72 p1))) then Lm P0 (M0 Ls) d m_Rock_sourceOf 24 [some (.inr (.inr 72)), some (.inl p1), some (.inl p2), none] [] w else (if 0 ≤ p1 ∧ p1 < 8 then (if 0 ≤ p1 ∧ p1 < 8 then (if (rd w 75 p1) = 1 then Lm P0 (M0 Ls) d m_Rock_sourceOf 66 [some (.inr (.inr 72)), some (.inl p1), some (.inl p2), some (.inl (w32 (Int.tdiv (w32 (p2 - (rd w 72 p1))) 2)))] [] w else (if 0 ≤ p1 ∧ p1 < 8 then (if (rd w 75 p1) = 2 then Lm P0 (M0 Ls) d m_Rock_sourceOf 66 [some (.inr (.inr 72)), some (.inl p1), some (.inl p2), some (.inl (w32 ((w32 (p2 - (rd w 72 p1))) * 2)))] [] w else Lm P0 (M0 Ls) d m_Rock_sourceOf 66 [some (.inr (.inr 72)), some (.inl p1), some (.inl p2), some (.inl (w32 (p2 - (rd w 72 p1))))] [] w) else none)) else none) else none)) else none)) else none) := by
  rw [Lm_unf P0 (M0 Ls) sp_94_1 39]
  rfl
set_option maxRecDepth 100000 in
theorem E_94_24_1 (Ls d : Nat) (x1 x2 : Int) (w : AW) : Lm P0 (M0 Ls) d m_Rock_sourceOf 24 [some (.inr (.inr 72)), some (.inl x1), some (.inl x2), none] [] w = some (some (.inl (-1)), w) := by
  rw [Lm_unf P0 (M0 Ls) sp_94_1 3]
  rfl
set_option maxRecDepth 100000 in
theorem E_94_66_1 (Ls d : Nat) (x1 x2 x3 : Int) (w : AW) : Lm P0 (M0 Ls) d m_Rock_sourceOf 66 [some (.inr (.inr 72)), some (.inl x1), some (.inl x2), some (.inl x3)] [] w = (if 0 ≤ x1 ∧ x1 < 8 then (if 0 < (rd w 76 x1) then (if 0 ≤ x1 ∧ x1 < 8 then (if x3 < (rd w 76 x1) then Lm P0 (M0 Ls) d m_Rock_sourceOf 89 [some (.inr (.inr 72)), some (.inl x1), some (.inl x2), some (.inl x3)] [] w else Lm P0 (M0 Ls) d m_Rock_sourceOf 90 [some (.inr (.inr 72)), some (.inl x1), some (.inl x2), some (.inl x3)] [.inl (-1)] w) else none) else Lm P0 (M0 Ls) d m_Rock_sourceOf 89 [some (.inr (.inr 72)), some (.inl x1), some (.inl x2), some (.inl x3)] [] w) else none) := by
  rw [Lm_unf P0 (M0 Ls) sp_94_1 15]
  rfl
set_option maxRecDepth 100000 in
theorem E_94_89_1 (Ls d : Nat) (x1 x2 x3 : Int) (w : AW) : Lm P0 (M0 Ls) d m_Rock_sourceOf 89 [some (.inr (.inr 72)), some (.inl x1), some (.inl x2), some (.inl x3)] [] w = Lm P0 (M0 Ls) d m_Rock_sourceOf 90 [some (.inr (.inr 72)), some (.inl x1), some (.inl x2), some (.inl x3)] [.inl x3] w := by
  rw [Lm_unf P0 (M0 Ls) sp_94_1 3]
  rfl
set_option maxRecDepth 100000 in
theorem E_94_90_1 (Ls d : Nat) (x1 x2 x3 y0 : Int) (w : AW) : Lm P0 (M0 Ls) d m_Rock_sourceOf 90 [some (.inr (.inr 72)), some (.inl x1), some (.inl x2), some (.inl x3)] [.inl y0] w = some (some (.inl y0), w) := by
  rw [Lm_unf P0 (M0 Ls) sp_94_1 2]
  rfl
