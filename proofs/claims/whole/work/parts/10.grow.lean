/-! what a step does to a world's size -/
section Gr
theorem g_pI {st : List AV} {k : Int → List AV → Prop} (h : ∀ x st, k x st) : pI st True k := by unfold pI; split <;> first | exact h _ _ | trivial
theorem g_pII {st : List AV} {k : Int → Int → List AV → Prop} (h : ∀ x y st, k x y st) : pII st True k := by unfold pII; split <;> first | exact h _ _ _ | trivial
theorem g_pJ {st : List AV} {k : Int → List AV → Prop} (h : ∀ x st, k x st) : pJ st True k := by unfold pJ; split <;> first | exact h _ _ | trivial
theorem g_pJJ {st : List AV} {k : Int → Int → List AV → Prop} (h : ∀ x y st, k x y st) : pJJ st True k := by unfold pJJ; split <;> first | exact h _ _ _ | trivial
theorem g_pA {st : List AV} {k : Int → List AV → Prop} (h : ∀ x st, k x st) : pA st True k := by unfold pA; split <;> first | exact h _ _ | trivial
theorem g_pV {st : List AV} {k : AV → List AV → Prop} (h : ∀ x st, k x st) : pV st True k := by unfold pV; split <;> first | exact h _ _ | trivial
theorem g_lI {ls : AL} {n : Nat} {k : Int → Prop} (h : ∀ x, k x) : lI ls n True k := by unfold lI; split <;> first | exact h _ | trivial
theorem g_lJ {ls : AL} {n : Nat} {k : Int → Prop} (h : ∀ x, k x) : lJ ls n True k := by unfold lJ; split <;> first | exact h _ | trivial
theorem g_lA {ls : AL} {n : Nat} {k : Int → Prop} (h : ∀ x, k x) : lA ls n True k := by unfold lA; split <;> first | exact h _ | trivial
theorem g_if {c : Prop} [Decidable c] {a b : Prop} (h1 : a) (h2 : b) : (if c then a else b) := by split <;> assumption
theorem g_cnd {c : ClassFile.Cond} {x y : Int} {a b : Prop} (h1 : a) (h2 : b) : cnd c x y a b := by cases c <;> simp only [cnd] <;> split <;> assumption
theorem g_arN {μ : AM} {w : AW} {x : Int} {c1 c2 c3 : Nat} {k : Nat → Nat → Prop} (h : ∀ a n, k a n) : arN μ w x c1 c2 c3 True k := by
  unfold arN
  split
  · split
    · exact h _ _
    · trivial
  · trivial
theorem g_inx {i : Int} {n : Nat} {k : Prop} (h : k) : inx i n True k := by unfold inx; split <;> trivial
theorem g_swi {x : Int} {pc : Nat} {d : Int} {k : Nat → Prop} (h : ∀ q, k q) : ∀ (os : List Int) (lo : Int), swi x pc d k os lo := by
  intro os
  induction os with
  | nil => intro lo; exact h _
  | cons o os ih => intro lo; rw [swi]; exact g_if (h _) (ih _)
theorem g_swl {x : Int} {pc : Nat} {d : Int} {k : Nat → Prop} (h : ∀ q, k q) : ∀ (os : List (Int × Int)), swl x pc d k os := by
  intro os
  induction os with
  | nil => exact h _
  | cons o os ih => rw [swl]; exact g_if (h _) ih
set_option maxHeartbeats 2000000 in
theorem stp_grow (μ : AM) (ri : RI) (pc : Nat) (ls : AL) (st : List AV) (w : AW) : stp μ ri pc ls st w (fun _ _ _ w' => w.1 ≤ w'.1 ∧ w.2.1 ≤ w'.2.1) (fun _ => True) (fun _ _ _ => True) True := by
  obtain ⟨i, a, b, v⟩ := ri
  cases i <;> simp only [stp] <;> repeat (first
    | exact True.intro
    | exact ⟨Nat.le_refl _, Nat.le_refl _⟩
    | exact ⟨Nat.le_succ _, Nat.le_add_right _ _⟩
    | (refine g_pI fun _ _ => ?_) | (refine g_pII fun _ _ _ => ?_) | (refine g_pJ fun _ _ => ?_) | (refine g_pJJ fun _ _ _ => ?_) | (refine g_pA fun _ _ => ?_) | (refine g_pV fun _ _ => ?_)
    | (refine g_lI fun _ => ?_) | (refine g_lJ fun _ => ?_) | (refine g_lA fun _ => ?_) | (refine g_arN fun _ _ => ?_) | (refine g_inx ?_) | (refine g_swi (fun _ => ?_) _ _) | (refine g_swl (fun _ => ?_) _) | (refine g_cnd ?_ ?_) | (refine g_if ?_ ?_))
end Gr
theorem stpO_grow {μ : AM} {ri : RI} {pc : Nat} {ls : AL} {st : List AV} {w : AW} {a : Nat} {b : AL} {c : List AV} {w' : AW} (h : stpO μ ri pc ls st w = some (.inl (a, b, c, w'))) : w.1 ≤ w'.1 ∧ w.2.1 ≤ w'.2.1 := by
  have := stp_grow μ ri pc ls st w
  rw [stp_eq, h] at this
  exact this
theorem vox_grow {P : PG} {μ : AM} {d : Nat} {args : List AV} {w : AW} {f : Nat → List AV → AW → RS} (h : ∀ d a w r w', f d a w = some (r, w') → w.1 ≤ w'.1 ∧ w.2.1 ≤ w'.2.1) {r : Option AV} {w' : AW} (hr : vox P μ d args w f = some (r, w')) : w.1 ≤ w'.1 ∧ w.2.1 ≤ w'.2.1 := by
  unfold vox at hr
  split at hr
  · split at hr
    · split at hr
      · split at hr
        · rename_i hq
          have := h _ _ _ _ _ hq
          split at hr
          · cases hr
            exact ⟨Nat.le_succ_of_le this.1, Nat.le_trans this.2 (Nat.le_add_right _ _)⟩
          · split at hr
            · cases hr
              exact this
            · cases hr
        · cases hr
      · cases hr
    · cases hr
  · cases hr
theorem ex_grow {P : PG} {μ : AM} (n : Nat) : ∀ {d m pc : Nat} {ls : AL} {st : List AV} {w : AW} {r : Option AV} {w' : AW}, ex P μ n d m pc ls st w = some (r, w') → w.1 ≤ w'.1 ∧ w.2.1 ≤ w'.2.1 := by
  induction n with
  | zero => intro d m pc ls st w r w' h; cases h
  | succ n ih =>
    intro d m pc ls st w r w' h
    rw [ex] at h
    cases hc : (P.1 m).2.getD pc none with
    | none => rw [hc] at h; cases h
    | some ri =>
      rw [hc] at h
      simp only [] at h
      rw [stp_eq] at h
      cases ho : stpO μ ri pc ls st w with
      | none => rw [ho] at h; cases h
      | some o =>
        rw [ho] at h
        rcases o with ⟨a, b, c, e⟩ | r' | ⟨mq, args, rest⟩
        · have h1 := stpO_grow ho
          have h2 := ih h
          exact ⟨Nat.le_trans h1.1 h2.1, Nat.le_trans h1.2 h2.2⟩
        · cases h
          exact ⟨Nat.le_refl _, Nat.le_refl _⟩
        · simp only [] at h
          cases d with
          | zero => cases h
          | succ d =>
            simp only [] at h
            cases hv : (if mq = 9997 then vox P μ d args w (fun d a w => ex P μ n d P.2.1 0 (ent (P.1 P.2.1).1 a) [] w) else fitA P mq args (ex P μ n d mq 0 (ent (P.1 mq).1 args) [] w)) with
            | none => rw [hv] at h; cases h
            | some q =>
              rw [hv] at h
              have h1 : w.1 ≤ q.2.1 ∧ w.2.1 ≤ q.2.2.1 := by
                obtain ⟨q1, q2⟩ := q
                by_cases hm : mq = 9997
                · rw [if_pos hm] at hv
                  exact vox_grow (fun d a w r w' h => ih h) hv
                · rw [if_neg hm] at hv
                  exact ih (fitA_iff.mp hv).2
              have h2 := ih h
              exact ⟨Nat.le_trans h1.1 h2.1, Nat.le_trans h1.2 h2.2⟩
