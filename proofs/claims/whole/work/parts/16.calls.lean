def owR (m : Nat) : Nat := owL.getD m 99
def npR (m : Nat) : Nat := npL.getD m 0
/-- of a method: its code, its class, its way of being called, its parameters -/
def mfG (m : Nat) : Prop := (mfR m).2.2.2.2 = 9 ∨ (tables_1[(mfR m).1]? = some (.code (Y0 m).1 (Y0 m).2.1 (P0.1 m).1 (Y0 m).2.2) ∧ tables_1[(mfR m).2.1]? = some (.initialized (Y0 m).1.cls) ∧ plainFor (Y0 m).1 = true ∧ (P0.1 m).1 ≤ 41 ∧ (Y0 m).1.cls ≠ "java/lang/invoke/MethodHandle" ∧ (Y0 m).1.cls ≠ "java/lang/invoke/VarHandle" ∧ (parseMethodDescriptor (Y0 m).1.desc).map (fun d => d.parameters.length) = some (npR m) ∧ (Y0 m).1.cls = cN (owR m) ∧
  (((mfR m).2.2.2.2 = 0 ∧ tables_1[(mfR m).2.2.1]? = some (.instanceMethod (Y0 m).1) ∧ lw_tbl[(mfR m).2.2.2.1]? = some (.selects (Y0 m).1.cls (Y0 m).1 (Y0 m).1) ∧ (Y0 m).1.name ≠ "<init>") ∨ ((mfR m).2.2.2.2 = 1 ∧ tables_1[(mfR m).2.2.1]? = some (.static (Y0 m).1) ∧ (Y0 m).1.name ≠ "<init>") ∨ ((mfR m).2.2.2.2 = 2 ∧ tables_1[(mfR m).2.2.1]? = some (.instanceMethod (Y0 m).1) ∧ (Y0 m).1.name = "<init>" ∧ (Y0 m).2.2 = none)))
def clB (o : Nat) (ri : RI) : Bool := match ri with
  | (i, a, b, v) => match i with
    | .invokevirtual idx => decide (a < 289) && mlL.any (fun q => decide (q.1 = o) && decide (q.2.1 = idx) && decide (q.2.2.1 = a)) && decide ((mfR a).2.2.2.2 = 0) && decide (b - 1 = npR a) && ((decide (v.toNat < 13) && decide (owR a = v.toNat)) || (decide (v.toNat = 60) && decide (owR a = 16)))
    | .invokestatic idx => decide (a = 9998) || (decide (a = 9997) && vxL.any (fun q => decide (q.1 = o) && decide (q.2.1 = idx))) || (decide (a < 289) && (mlL.any (fun q => decide (q.1 = o) && decide (q.2.1 = idx) && decide (q.2.2.1 = a)) || mnL.any (fun q => decide (q.1 = o) && decide (q.2.1 = idx) && decide (q.2.2 = a))) && decide ((mfR a).2.2.2.2 = 1) && decide (b = npR a))
    | .invokespecial idx => decide (a = 9999) || (decide (a < 289) && (mlL.any (fun q => decide (q.1 = o) && decide (q.2.1 = idx) && decide (q.2.2.1 = a)) || mnL.any (fun q => decide (q.1 = o) && decide (q.2.1 = idx) && decide (q.2.2 = a))) && decide ((mfR a).2.2.2.2 = 2) && decide (b - 1 = npR a))
    | _ => true
theorem ml_use {o idx a : Nat} (h : mlL.any (fun q => decide (q.1 = o) && decide (q.2.1 = idx) && decide (q.2.2.1 = a)) = true) : Cond.methodLink (cN o) idx (Y0 a).1 ∈ WS := by
  obtain ⟨q, hq, h⟩ := List.any_eq_true.mp h
  simp only [Bool.and_eq_true, decide_eq_true_eq] at h
  obtain ⟨⟨rfl, rfl⟩, rfl⟩ := h
  exact in_ws (mlL_ok q hq) rfl
theorem mn_use {o idx a : Nat} (h : mnL.any (fun q => decide (q.1 = o) && decide (q.2.1 = idx) && decide (q.2.2 = a)) = true) : (cN o, idx, (Y0 a).1) ∈ nestL := by
  obtain ⟨q, hq, h⟩ := List.any_eq_true.mp h
  simp only [Bool.and_eq_true, decide_eq_true_eq] at h
  obtain ⟨⟨rfl, rfl⟩, rfl⟩ := h
  exact mnL_ok q hq
theorem clB_ok (hmf : ∀ m, m < 289 → mfG m) {o : Nat} {ri : RI} (h : clB o ri = true) : CLok P0 Y0 (cN o) ri ∧ (∀ idx, ri.1 = .invokestatic idx → ri.2.1 = 9997 → cN o = "EchoTuneLaw" ∧ Cond.methodLink "EchoTuneLaw" idx yVoice ∈ WS) ∧ (∀ idx, ri.1 = .invokevirtual idx → ri.2.1 ≠ 9997) ∧ ∀ idx, ri.1 = .invokespecial idx → ri.2.1 ≠ 9997 := by
  obtain ⟨i, a, b, v⟩ := ri
  cases i
  case invokevirtual idx =>
    simp only [clB, Bool.or_eq_true, Bool.and_eq_true, decide_eq_true_eq] at h
    obtain ⟨⟨⟨⟨h1, h2⟩, h3⟩, h4⟩, h5⟩ := h
    refine ⟨?_, (fun _ q => by cases q), (fun _ _ q => by simp only [] at q; omega), fun _ q => by cases q⟩
    rcases hmf a h1 with q | ⟨g1, g2, g3, g4, g5, g6, g7, g8, g9⟩
    · omega
    · rcases g9 with ⟨-, k1, k2, k3⟩ | ⟨k0, -⟩ | ⟨k0, -⟩
      · refine ⟨ml_use (by simpa only [Bool.and_eq_true, decide_eq_true_eq] using h2), in_ws k1 rfl, WS_in (List.mem_of_getElem? k2) rfl, in_ws g2 rfl, in_ws g1 rfl, ?_, g3, g4, k3, g5, g6, by rw [h4]; exact g7⟩
        rcases h5 with ⟨h5, h6⟩ | ⟨h5, h6⟩
        · exact Or.inl ⟨h5, by rw [g8, h6]⟩
        · exact Or.inr ⟨h5, by rw [g8, h6]; rfl⟩
      · omega
      · omega
  case invokestatic idx =>
    simp only [clB, Bool.or_eq_true, Bool.and_eq_true, decide_eq_true_eq] at h
    rcases h with (h | ⟨h1, h2⟩) | ⟨⟨⟨h1, h2⟩, h3⟩, h4⟩
    · exact ⟨Or.inl h, (fun _ _ q => by simp only [] at q; omega), (fun _ q => by cases q), fun _ q => by cases q⟩
    · obtain ⟨q, hq, h⟩ := List.any_eq_true.mp h2
      simp only [Bool.and_eq_true, decide_eq_true_eq] at h
      obtain ⟨rfl, rfl⟩ := h
      obtain ⟨v1, v2⟩ := vxL_ok q hq
      exact ⟨Or.inr (Or.inl h1), (fun k e _ => by cases e; exact ⟨v1, in_ws v2 rfl⟩), (fun _ q => by cases q), fun _ q => by cases q⟩
    · refine ⟨?_, (fun _ _ q => by simp only [] at q; omega), (fun _ q => by cases q), fun _ q => by cases q⟩
      rcases hmf a h1 with q | ⟨g1, g2, g3, g4, g5, g6, g7, g8, g9⟩
      · omega
      · rcases g9 with ⟨k0, -⟩ | ⟨-, k1, k3⟩ | ⟨k0, -⟩
        · omega
        · refine Or.inr (Or.inr ⟨?_, in_ws k1 rfl, in_ws g2 rfl, in_ws g1 rfl, g3, g4, k3, g5, g6, by rw [h4]; exact g7⟩)
          rcases h2 with h2 | h2
          · exact Or.inl (ml_use (by simpa only [Bool.and_eq_true, decide_eq_true_eq] using h2))
          · exact Or.inr (mn_use (by simpa only [Bool.and_eq_true, decide_eq_true_eq] using h2))
        · omega
  case invokespecial idx =>
    simp only [clB, Bool.or_eq_true, Bool.and_eq_true, decide_eq_true_eq] at h
    rcases h with h | ⟨⟨⟨h1, h2⟩, h3⟩, h4⟩
    · exact ⟨Or.inl h, (fun _ q => by cases q), (fun _ q => by cases q), fun _ _ q => by simp only [] at q; omega⟩
    · refine ⟨?_, (fun _ q => by cases q), (fun _ q => by cases q), fun _ _ q => by simp only [] at q; omega⟩
      rcases hmf a h1 with q | ⟨g1, g2, g3, g4, g5, g6, g7, g8, g9⟩
      · omega
      · rcases g9 with ⟨k0, -⟩ | ⟨k0, -⟩ | ⟨-, k1, k2, k3⟩
        · omega
        · omega
        · refine Or.inr ⟨?_, k2, in_ws k1 rfl, in_ws g2 rfl, in_ws g1 rfl, k3, g3, g4, g5, g6, by rw [h4]; exact g7⟩
          rcases h2 with h2 | h2
          · exact Or.inl (ml_use (by simpa only [Bool.and_eq_true, decide_eq_true_eq] using h2))
          · exact Or.inr (mn_use (by simpa only [Bool.and_eq_true, decide_eq_true_eq] using h2))
  all_goals exact ⟨trivial, (fun _ q => by cases q), (fun _ q => by cases q), fun _ q => by cases q⟩
/-- a method's whole code -/
def ckL (cc : ByteArray) (o : Nat) (init : Bool) (ret : Option FieldType) : List (Option RI) → Nat → Bool
  | [], _ => true
  | none :: l, pc => ckL cc o init ret l (pc + 1)
  | some ri :: l, pc => (match decode cc pc with
    | .ok (i, len) => decide (i = ri.1) && (isSw i || decide (len = ilen i))
    | _ => false) && lkB o init ret pc ri && clB o ri && ckL cc o init ret l (pc + 1)
theorem ckL_get {cc : ByteArray} {o : Nat} {init : Bool} {ret : Option FieldType} : ∀ (l : List (Option RI)) (k : Nat), ckL cc o init ret l k = true → ∀ pc ri, l.getD pc none = some ri → (∃ len, decode cc (k + pc) = .ok (ri.1, len) ∧ (isSw ri.1 = true ∨ len = ilen ri.1)) ∧ lkB o init ret (k + pc) ri = true ∧ clB o ri = true := by
  intro l
  induction l with
  | nil => intro k _ pc ri h; simp at h
  | cons x l ih =>
    intro k hk pc ri h
    cases pc with
    | zero =>
      have h : x = some ri := by simpa using h
      subst h
      rw [ckL, Bool.and_eq_true, Bool.and_eq_true, Bool.and_eq_true] at hk
      obtain ⟨⟨⟨h1, h2⟩, h3⟩, -⟩ := hk
      refine ⟨?_, h2, h3⟩
      rw [Nat.add_zero]
      split at h1
      · rename_i i len hd
        rw [Bool.and_eq_true, Bool.or_eq_true, decide_eq_true_eq, decide_eq_true_eq] at h1
        obtain ⟨e1, e2⟩ := h1
        subst e1
        exact ⟨len, hd, e2⟩
      · cases h1
    | succ pc =>
      have h : l.getD pc none = some ri := by simpa using h
      have hk2 : ckL cc o init ret l (k + 1) = true := by
        cases x with
        | none => exact hk
        | some y => rw [ckL, Bool.and_eq_true] at hk; exact hk.2
      have := ih (k + 1) hk2 pc ri h
      rw [show k + (pc + 1) = k + 1 + pc by omega]
      exact this
