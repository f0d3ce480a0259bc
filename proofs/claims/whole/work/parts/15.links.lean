theorem in_ws {i : Nat} {w : Cond} (h : tables_1[i]? = some w) (g : goodWord w = true) : w ∈ WS := WS_tab (List.mem_of_getElem? h) g
/-- the links of an instruction, by the lists -/
def lkB (o : Nat) (init : Bool) (ret : Option FieldType) (pc : Nat) (ri : RI) : Bool := match ri with
  | (i, a, b, v) => match i with
    | .iconst n => decide ((Int32.ofInt n).toInt = n)
    | .bipush n => decide ((Int8.ofInt n).toInt32 = Int32.ofInt v) && decide ((Int32.ofInt v).toInt = v)
    | .sipush n => decide ((Int16.ofInt n).toInt32 = Int32.ofInt v) && decide ((Int32.ofInt v).toInt = v)
    | .lconst n => decide (v = ((n : Nat) : Int))
    | .ldc idx => (decide (a = 0) && decide ((Int32.ofInt v).toInt = v) && ldL.any (fun q => decide (q.1 = o) && decide (q.2.1 = idx) && decide (q.2.2.1 = v))) || (decide (a = 2) && (List.range 26).any (fun k => decide (v = (k : Int) + 2) && decide ((sx0 k).1 = cN o) && decide ((sx0 k).2.1 = idx)))
    | .ldc_w idx => decide ((Int32.ofInt v).toInt = v) && ldL.any (fun q => decide (q.1 = o) && decide (q.2.1 = idx) && decide (q.2.2.1 = v))
    | .ldc2_w idx => decide ((Int64.ofInt v).toInt = v) && l2L.any (fun q => decide (q.1 = o) && decide (q.2.1 = idx) && decide (q.2.2.1 = v))
    | .iload_n k => decide ((k : Nat) = a)
    | .lload_n k => decide ((k : Nat) = a)
    | .aload_n k => decide ((k : Nat) = a)
    | .istore_n k => decide ((k : Nat) = a)
    | .lstore_n k => decide ((k : Nat) = a)
    | .astore_n k => decide ((k : Nat) = a)
    | .goto off => decide ((pc : Int) + off = (a : Int))
    | .ifCond _ off => decide ((pc : Int) + off = (a : Int))
    | .if_icmp _ off => decide ((pc : Int) + off = (a : Int))
    | .ifnull off => decide ((pc : Int) + off = (a : Int))
    | .ifnonnull off => decide ((pc : Int) + off = (a : Int))
    | .tableswitch d lo hi offs => decide (hi = lo + (offs.toList.length : Int) - 1) && decide (0 ≤ (pc : Int) + d) && offs.toList.all (fun o => decide (0 ≤ (pc : Int) + o))
    | .lookupswitch d ps => (ps.toList.zip (ps.toList.drop 1)).all (fun (a, next) => a.1 < next.1) && decide (0 ≤ (pc : Int) + d) && ps.toList.all (fun o => decide (0 ≤ (pc : Int) + o.2))
    | .getfield idx => (flL.any (fun q => decide (q.1 = o) && decide (q.2.1 = idx) && decide (q.2.2.1 = a) && decide (q.2.2.2.1 = b)) && decide (v = fk a b)) || (decide (a = 60) && decide (b = 0) && decide (v = 2) && fsL.any (fun q => decide (q.1 = o) && decide (q.2.1 = idx) && decide (q.2.2.1 = 0))) || (decide (a = 60) && decide (b = 1) && decide (v = 0) && fsL.any (fun q => decide (q.1 = o) && decide (q.2.1 = idx) && decide (q.2.2.1 = 1)))
    | .putfield idx => flL.any (fun q => decide (q.1 = o) && decide (q.2.1 = idx) && decide (q.2.2.1 = a) && decide (q.2.2.2.1 = b)) && decide (v = fk a b) && (decide ((fR a b).2.2.1 = false) || (decide ((fR a b).2.2.1 = true) && init && decide (a = o)))
    | .getstatic idx => gsL.any (fun q => decide (q.1 = o) && decide (q.2.1 = idx) && decide (q.2.2.1 = v)) && ((decide (v = 1) && decide (a = 0)) || (decide (v = -1) && decide (a = 2)))
    | .new idx => nwL.any (fun q => decide (q.1 = o) && decide (q.2.1 = idx) && decide (q.2.2.1 = a)) && decide (b = nF a)
    | .newarray t => (decide (a = 100) && decide (t = .int)) || (decide (a = 101) && decide (t = .long)) || (decide (a = 102) && decide (t = .byte)) || (decide (a = 103) && decide (t = .boolean))
    | .anewarray idx => anL.any (fun q => decide (q.1 = o) && decide (q.2.1 = idx))
    | .ireturn => decide (ret = rty a)
    | .lreturn => decide (ret = some .long)
    | .return_ => decide (ret = none)
    | .aastore => decide (b = 2)
    | .invokespecial idx => decide (¬ a = 9999) || oiL.any (fun q => decide (q.1 = o) && decide (q.2.1 = idx))
    | .invokestatic idx => decide (¬ a = 9998) || acL.any (fun q => decide (q.1 = o) && decide (q.2.1 = idx))
    | _ => true
theorem fl_use {o idx a b : Nat} (h : flL.any (fun q => decide (q.1 = o) && decide (q.2.1 = idx) && decide (q.2.2.1 = a) && decide (q.2.2.2.1 = b)) = true) : a < 13 ∧ b < nF a ∧ Cond.fieldLink (cN o) idx (cN a) (fT a b).2.1 (fT a b).2.2.1 ∈ WS := by
  obtain ⟨q, hq, h⟩ := List.any_eq_true.mp h
  simp only [Bool.and_eq_true, decide_eq_true_eq] at h
  obtain ⟨⟨⟨rfl, rfl⟩, rfl⟩, rfl⟩ := h
  have := flL_ok q hq
  exact ⟨this.1, this.2.1, in_ws this.2.2.1 this.2.2.2⟩
theorem fs_use {o idx b : Nat} (h : fsL.any (fun q => decide (q.1 = o) && decide (q.2.1 = idx) && decide (q.2.2.1 = b)) = true) : Cond.fieldLink (cN o) idx "java/lang/String" (fsN b).1 (fsN b).2 ∈ WS := by
  obtain ⟨q, hq, h⟩ := List.any_eq_true.mp h
  simp only [Bool.and_eq_true, decide_eq_true_eq] at h
  obtain ⟨⟨rfl, rfl⟩, rfl⟩ := h
  have := fsL_ok q hq
  exact in_ws this.1 this.2
theorem ld_use {o idx : Nat} {v : Int} (h : ldL.any (fun q => decide (q.1 = o) && decide (q.2.1 = idx) && decide (q.2.2.1 = v)) = true) : Cond.constant (cN o) idx (Int32.ofInt v) ∈ WS := by
  obtain ⟨q, hq, h⟩ := List.any_eq_true.mp h
  simp only [Bool.and_eq_true, decide_eq_true_eq] at h
  obtain ⟨⟨rfl, rfl⟩, rfl⟩ := h
  have := ldL_ok q hq
  exact in_ws this.1 this.2
set_option maxHeartbeats 2000000 in
theorem lkB_ok {o : Nat} {init : Bool} {ret : Option FieldType} {pc : Nat} {ri : RI} (h : lkB o init ret pc ri = true) : LKok sx0 (cN o) init ret pc ri := by
  obtain ⟨i, a, b, v⟩ := ri
  cases i
  case iconst n =>
    simp only [lkB, decide_eq_true_eq] at h
    exact h
  case bipush n => exact ⟨of_decide_eq_true (Bool.and_eq_true_iff.mp h).1, of_decide_eq_true (Bool.and_eq_true_iff.mp h).2⟩
  case sipush n => exact ⟨of_decide_eq_true (Bool.and_eq_true_iff.mp h).1, of_decide_eq_true (Bool.and_eq_true_iff.mp h).2⟩
  case lconst n =>
    simp only [lkB, decide_eq_true_eq] at h
    exact h
  case ldc idx =>
    simp only [lkB, Bool.or_eq_true, Bool.and_eq_true, decide_eq_true_eq] at h
    rcases h with ⟨⟨h1, h2⟩, h3⟩ | ⟨h1, h2⟩
    · exact Or.inl ⟨h1, h2, ld_use (by simpa only [Bool.and_eq_true, decide_eq_true_eq] using h3)⟩
    · obtain ⟨k, hk, h3⟩ := List.any_eq_true.mp h2
      simp only [Bool.and_eq_true, decide_eq_true_eq] at h3
      exact Or.inr ⟨h1, k, List.mem_range.mp hk, h3.1.1, h3.1.2, h3.2⟩
  case ldc_w idx => exact ⟨of_decide_eq_true (Bool.and_eq_true_iff.mp h).1, ld_use (Bool.and_eq_true_iff.mp h).2⟩
  case ldc2_w idx =>
    refine ⟨of_decide_eq_true (Bool.and_eq_true_iff.mp h).1, ?_⟩
    obtain ⟨q, hq, h⟩ := List.any_eq_true.mp (Bool.and_eq_true_iff.mp h).2
    simp only [Bool.and_eq_true, decide_eq_true_eq] at h
    obtain ⟨⟨rfl, rfl⟩, rfl⟩ := h
    have := l2L_ok q hq
    exact in_ws this.1 this.2
  case iload_n k =>
    simp only [lkB, decide_eq_true_eq] at h
    exact h
  case lload_n k =>
    simp only [lkB, decide_eq_true_eq] at h
    exact h
  case aload_n k =>
    simp only [lkB, decide_eq_true_eq] at h
    exact h
  case istore_n k =>
    simp only [lkB, decide_eq_true_eq] at h
    exact h
  case lstore_n k =>
    simp only [lkB, decide_eq_true_eq] at h
    exact h
  case astore_n k =>
    simp only [lkB, decide_eq_true_eq] at h
    exact h
  case goto off =>
    simp only [lkB, decide_eq_true_eq] at h
    exact h
  case ifCond c off =>
    simp only [lkB, decide_eq_true_eq] at h
    exact h
  case if_icmp c off =>
    simp only [lkB, decide_eq_true_eq] at h
    exact h
  case ifnull off =>
    simp only [lkB, decide_eq_true_eq] at h
    exact h
  case ifnonnull off =>
    simp only [lkB, decide_eq_true_eq] at h
    exact h
  case tableswitch d lo hi offs =>
    simp only [lkB, Bool.and_eq_true, decide_eq_true_eq, List.all_eq_true] at h
    exact ⟨h.1.1, h.1.2, h.2⟩
  case lookupswitch d ps =>
    have h : ((ps.toList.zip (ps.toList.drop 1)).all (fun (a, next) => a.1 < next.1) && decide (0 ≤ (pc : Int) + d) && ps.toList.all (fun o => decide (0 ≤ (pc : Int) + o.2))) = true := h
    rw [Bool.and_eq_true, Bool.and_eq_true] at h
    refine ⟨h.1.1, of_decide_eq_true h.1.2, fun o ho => ?_⟩
    exact of_decide_eq_true (List.all_eq_true.mp h.2 o ho)
  case getfield idx =>
    simp only [lkB, Bool.or_eq_true, Bool.and_eq_true, decide_eq_true_eq] at h
    rcases h with (⟨h1, h2⟩ | ⟨⟨⟨h1, h2⟩, h3⟩, h4⟩) | ⟨⟨⟨h1, h2⟩, h3⟩, h4⟩
    · obtain ⟨q1, q2, q3⟩ := fl_use (by simpa only [Bool.and_eq_true, decide_eq_true_eq] using h1)
      exact Or.inl ⟨q1, q2, h2, q3⟩
    · exact Or.inr (Or.inl ⟨h1, h2, h3, fs_use (b := 0) (by simpa only [Bool.and_eq_true, decide_eq_true_eq] using h4)⟩)
    · exact Or.inr (Or.inr ⟨h1, h2, h3, fs_use (b := 1) (by simpa only [Bool.and_eq_true, decide_eq_true_eq] using h4)⟩)
  case putfield idx =>
    simp only [lkB, Bool.or_eq_true, Bool.and_eq_true, decide_eq_true_eq] at h
    obtain ⟨⟨h1, h2⟩, h3⟩ := h
    obtain ⟨q1, q2, q3⟩ := fl_use (by simpa only [Bool.and_eq_true, decide_eq_true_eq] using h1)
    refine ⟨q1, q2, h2, q3, ?_⟩
    rcases h3 with h3 | ⟨⟨h3, h4⟩, h5⟩
    · exact Or.inl h3
    · exact Or.inr ⟨h3, h4, by rw [h5]⟩
  case getstatic idx =>
    simp only [lkB, Bool.or_eq_true, Bool.and_eq_true, decide_eq_true_eq] at h
    obtain ⟨h1, h2⟩ := h
    obtain ⟨q, hq, h3⟩ := List.any_eq_true.mp h1
    simp only [Bool.and_eq_true, decide_eq_true_eq] at h3
    obtain ⟨⟨e1, e2⟩, e3⟩ := h3
    obtain ⟨g1, g2⟩ := gsL_ok q hq
    rw [e1, e2, e3] at g2
    rcases h2 with ⟨h2, h3⟩ | ⟨h2, h3⟩
    · subst h2
      exact Or.inl ⟨h3, rfl, in_ws g2 rfl⟩
    · subst h2
      exact Or.inr ⟨h3, rfl, in_ws g2 rfl⟩
  case new idx =>
    simp only [lkB, Bool.and_eq_true, decide_eq_true_eq] at h
    obtain ⟨h1, h2⟩ := h
    obtain ⟨q, hq, h3⟩ := List.any_eq_true.mp h1
    simp only [Bool.and_eq_true, decide_eq_true_eq] at h3
    obtain ⟨⟨rfl, rfl⟩, rfl⟩ := h3
    obtain ⟨g1, g2, g3, g4⟩ := nwL_ok q hq
    exact ⟨g1, h2, in_ws g2 rfl, by rw [h2]; exact in_ws g3 rfl, in_ws g4 rfl⟩
  case newarray t =>
    simp only [lkB, Bool.or_eq_true, Bool.and_eq_true, decide_eq_true_eq] at h
    obtain ⟨p1, p2, p3, p4, p5, p6, p7, p8, p9⟩ := pz_ok
    rcases h with ((⟨h1, h2⟩ | ⟨h1, h2⟩) | ⟨h1, h2⟩) | ⟨h1, h2⟩ <;> subst h2
    · exact ⟨in_ws p7 rfl, Or.inl ⟨h1, rfl⟩⟩
    · exact ⟨in_ws p8 rfl, Or.inr (Or.inl ⟨h1, rfl⟩)⟩
    · exact ⟨in_ws p6 rfl, Or.inr (Or.inr (Or.inl ⟨h1, rfl⟩))⟩
    · exact ⟨in_ws p9 rfl, Or.inr (Or.inr (Or.inr ⟨h1, rfl⟩))⟩
  case anewarray idx =>
    obtain ⟨q, hq, h3⟩ := List.any_eq_true.mp h
    simp only [Bool.and_eq_true, decide_eq_true_eq] at h3
    obtain ⟨rfl, rfl⟩ := h3
    exact in_ws (anL_ok q hq) rfl
  case ireturn =>
    simp only [lkB, decide_eq_true_eq] at h
    exact h
  case lreturn =>
    simp only [lkB, decide_eq_true_eq] at h
    exact h
  case return_ =>
    simp only [lkB, decide_eq_true_eq] at h
    exact h
  case aastore =>
    simp only [lkB, decide_eq_true_eq] at h
    exact h
  case invokespecial idx =>
    intro ha
    simp only [lkB, Bool.or_eq_true, decide_eq_true_eq] at h
    rcases h with h | h
    · exact absurd ha h
    · obtain ⟨q, hq, h3⟩ := List.any_eq_true.mp h
      simp only [Bool.and_eq_true, decide_eq_true_eq] at h3
      obtain ⟨rfl, rfl⟩ := h3
      obtain ⟨p1, p2, p3, p4, p5, p6, p7, p8, p9⟩ := pz_ok
      exact ⟨in_ws (oiL_ok q hq) rfl, in_ws p1 rfl, in_ws p2 rfl⟩
  case invokestatic idx =>
    intro ha
    simp only [lkB, Bool.or_eq_true, decide_eq_true_eq] at h
    rcases h with h | h
    · exact absurd ha h
    · obtain ⟨q, hq, h3⟩ := List.any_eq_true.mp h
      simp only [Bool.and_eq_true, decide_eq_true_eq] at h3
      obtain ⟨rfl, rfl⟩ := h3
      obtain ⟨p1, p2, p3, p4, p5, p6, p7, p8, p9⟩ := pz_ok
      exact ⟨in_ws (acL_ok q hq) rfl, in_ws p3 rfl, in_ws p4 rfl, in_ws p5 rfl⟩
  all_goals trivial
