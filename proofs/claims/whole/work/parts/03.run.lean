/-- a program: each method's number of locals and code; then for the law's own 'voice': the method that hears, the class that has the state, the place of its field, the exception's slots -/
abbrev PG : Type := (Nat → Nat × List (Option RI)) × (Nat × Nat × Nat × Nat)
abbrev RS : Type := Option (Option AV × AW)
def flt : List AV → AL
  | [] => []
  | .inr (.inl x) :: l => some (.inr (.inl x)) :: none :: flt l
  | v :: l => some v :: flt l
def ent (mx : Nat) (args : List AV) : AL := flt args ++ List.replicate (mx - (flt args).length) none
/-- the law's own 'voice': 0 and the answer laid into the array, or 1 where the class throws -/
def vox (P : PG) (μ : AM) (d : Nat) (args : List AV) (w : AW) (hear : Nat → List AV → AW → RS) : RS := match d with
  | d + 8 => match args with
    | [.inr (.inr x), .inl p, .inl q, .inr (.inr o)] => if (0 < x ∧ (shv μ w (adr x)).1 = P.2.2.1 ∧ 0 < o ∧ shv μ w (adr o) = (101, 1)) ∧ 0 < cv μ w (adr x) P.2.2.2.1 ∧ (shv μ w (adr (cv μ w (adr x) P.2.2.2.1))).1 = 2 then
        (match hear d [.inr (.inr (cv μ w (adr x) P.2.2.2.1)), .inl p, .inl q] w with
        | some (some (.inl v), w') => if v = -1000000 then some (some (.inl 1), alloc w' 98 P.2.2.2.2) else (if shv μ w' (adr o) = (101, 1) then some (some (.inl 0), wC w' (adr o) 0 v) else none)
        | _ => none) else none
    | _ => none
  | _ => none
/-- the arguments fit the method's locals -/
def fitA (P : PG) (mq : Nat) (args : List AV) (x : RS) : RS := if asum args ≤ (P.1 mq).1 then x else none
theorem fitA_iff {P : PG} {mq : Nat} {args : List AV} {x : RS} {r : Option AV × AW} : fitA P mq args x = some r ↔ asum args ≤ (P.1 mq).1 ∧ x = some r := by
  unfold fitA
  split
  · rename_i h; exact ⟨fun q => ⟨h, q⟩, fun q => q.2⟩
  · rename_i h; exact ⟨fun q => (by cases q), fun q => absurd q.1 h⟩
def ex (P : PG) (μ : AM) : Nat → Nat → Nat → Nat → AL → List AV → AW → RS
  | 0, _, _, _, _, _, _ => none
  | n + 1, d, m, pc, ls, st, w => match (P.1 m).2.getD pc none with
    | none => none
    | some ri => stp μ ri pc ls st w (fun pc ls st w => ex P μ n d m pc ls st w) (fun r => some (r, w))
        (fun mk args rest => match d with
          | 0 => none
          | d + 1 => match (if mk = 9997 then vox P μ d args w (fun d a w => ex P μ n d P.2.1 0 (ent (P.1 P.2.1).1 a) [] w) else fitA P mk args (ex P μ n d mk 0 (ent (P.1 mk).1 args) [] w)) with
            | none => none
            | some q => ex P μ n (d + 1) m (pc + 3) ls (q.1.toList ++ rest) q.2) none
theorem vox_mono {P : PG} {μ : AM} {d : Nat} {args : List AV} {w : AW} {f g : Nat → List AV → AW → RS} (h : ∀ d a w r, f d a w = some r → g d a w = some r) {r : Option AV × AW} (hr : vox P μ d args w f = some r) : vox P μ d args w g = some r := by
  unfold vox at hr ⊢
  split at hr
  · split at hr
    · split at hr
      · rename_i hc
        split at hr
        · rename_i hq
          rw [if_pos hc, h _ _ _ _ hq]
          exact hr
        · cases hr
      · cases hr
    · cases hr
  · cases hr
theorem ex_mono {P : PG} {μ : AM} (n : Nat) : ∀ {d m pc : Nat} {ls : AL} {st : List AV} {w : AW} {r : Option AV × AW}, ex P μ n d m pc ls st w = some r → ex P μ (n + 1) d m pc ls st w = some r := by
  induction n with
  | zero => intro d m pc ls st w r h; cases h
  | succ n ih =>
    intro d m pc ls st w r h
    rw [ex] at h ⊢
    cases hc : (P.1 m).2.getD pc none with
    | none => rw [hc] at h; cases h
    | some ri =>
      rw [hc] at h
      simp only [] at h ⊢
      rw [stp_eq] at h ⊢
      cases ho : stpO μ ri pc ls st w with
      | none => rw [ho] at h; cases h
      | some o =>
        rw [ho] at h
        rcases o with ⟨a, b, c, e⟩ | r' | ⟨mk, args, rest⟩
        · exact ih h
        · exact h
        · simp only [] at h ⊢
          cases d with
          | zero => cases h
          | succ d =>
            simp only [] at h ⊢
            by_cases hm : mk = 9997
            · rw [if_pos hm] at h ⊢
              cases hv : vox P μ d args w (fun d a w => ex P μ n d P.2.1 0 (ent (P.1 P.2.1).1 a) [] w) with
              | none => rw [hv] at h; cases h
              | some q =>
                rw [hv] at h
                rw [vox_mono (g := fun d a w => ex P μ (n + 1) d P.2.1 0 (ent (P.1 P.2.1).1 a) [] w) (fun d a w r h => ih h) hv]
                exact ih h
            · rw [if_neg hm] at h ⊢
              cases hv : fitA P mk args (ex P μ n d mk 0 (ent (P.1 mk).1 args) [] w) with
              | none => rw [hv] at h; cases h
              | some q =>
                rw [hv] at h
                rw [fitA_iff.mpr ⟨(fitA_iff.mp hv).1, ih (fitA_iff.mp hv).2⟩]
                exact ih h
theorem ex_up {P : PG} {μ : AM} {n k : Nat} {d m pc : Nat} {ls : AL} {st : List AV} {w : AW} {r : Option AV × AW} (h : ex P μ n d m pc ls st w = some r) (hk : n ≤ k) : ex P μ k d m pc ls st w = some r := by
  obtain ⟨j, rfl⟩ := Nat.exists_eq_add_of_le hk
  clear hk
  induction j with
  | zero => exact h
  | succ j ih => exact ex_mono _ ih
/-- what a run comes to, however long it takes -/
noncomputable def Lm (P : PG) (μ : AM) (d m pc : Nat) (ls : AL) (st : List AV) (w : AW) : RS :=
  @dite _ (∃ n, ∃ r, ex P μ n d m pc ls st w = some r) (Classical.propDecidable _) (fun h => some (Classical.choose (Classical.choose_spec h))) (fun _ => none)
theorem Lm_iff {P : PG} {μ : AM} {d m pc : Nat} {ls : AL} {st : List AV} {w : AW} {r : Option AV × AW} : Lm P μ d m pc ls st w = some r ↔ ∃ n, ex P μ n d m pc ls st w = some r := by
  have key : ∀ {n k : Nat} {r r' : Option AV × AW}, ex P μ n d m pc ls st w = some r → ex P μ k d m pc ls st w = some r' → r = r' := by
    intro n k r r' h h'
    have h1 := ex_up h (Nat.le_max_left n k)
    have h2 := ex_up h' (Nat.le_max_right n k)
    rw [h1] at h2
    exact Option.some.inj h2
  constructor
  · intro h
    unfold Lm at h
    split at h
    · rename_i hh
      have hs := Classical.choose_spec (Classical.choose_spec hh)
      exact ⟨_, by rw [hs]; exact h⟩
    · cases h
  · rintro ⟨n, h⟩
    have hh : ∃ n, ∃ r, ex P μ n d m pc ls st w = some r := ⟨n, r, h⟩
    unfold Lm
    rw [dif_pos hh]
    exact congrArg some (key (Classical.choose_spec (Classical.choose_spec hh)) h)
/-- a call -/
noncomputable def Lc (P : PG) (μ : AM) (d mk : Nat) (args : List AV) (w : AW) : RS :=
  if mk = 9997 then vox P μ d args w (fun d a w => Lm P μ d P.2.1 0 (ent (P.1 P.2.1).1 a) [] w) else fitA P mk args (Lm P μ d mk 0 (ent (P.1 mk).1 args) [] w)
noncomputable def Lk (P : PG) (μ : AM) (d : Nat) (mk : Nat) (args : List AV) (w : AW) (k : Option AV → AW → RS) : RS := match d with
  | 0 => none
  | d + 1 => match Lc P μ d mk args w with
    | none => none
    | some q => k q.1 q.2
theorem vox_lim {P : PG} {μ : AM} {d : Nat} {args : List AV} {w : AW} {r : Option AV × AW} : vox P μ d args w (fun d a w => Lm P μ d P.2.1 0 (ent (P.1 P.2.1).1 a) [] w) = some r ↔ ∃ n, vox P μ d args w (fun d a w => ex P μ n d P.2.1 0 (ent (P.1 P.2.1).1 a) [] w) = some r := by
  constructor
  · intro hr
    unfold vox at hr
    split at hr
    · split at hr
      · split at hr
        · rename_i hc
          split at hr
          · rename_i hq
            obtain ⟨n, hn⟩ := Lm_iff.mp hq
            refine ⟨n, ?_⟩
            unfold vox
            simp only []
            rw [if_pos hc, hn]
            exact hr
          · cases hr
        · cases hr
      · cases hr
    · cases hr
  · rintro ⟨n, h⟩
    exact vox_mono (fun d a w r h => Lm_iff.mpr ⟨n, h⟩) h
theorem Lc_iff {P : PG} {μ : AM} {d mk : Nat} {args : List AV} {w : AW} {r : Option AV × AW} : Lc P μ d mk args w = some r ↔ ∃ n, (if mk = 9997 then vox P μ d args w (fun d a w => ex P μ n d P.2.1 0 (ent (P.1 P.2.1).1 a) [] w) else fitA P mk args (ex P μ n d mk 0 (ent (P.1 mk).1 args) [] w)) = some r := by
  unfold Lc
  by_cases hm : mk = 9997
  · simp only [if_pos hm]
    exact vox_lim
  · simp only [if_neg hm, fitA_iff, Lm_iff]
    exact ⟨fun ⟨h1, n, h2⟩ => ⟨n, h1, h2⟩, fun ⟨n, h1, h2⟩ => ⟨h1, n, h2⟩⟩
theorem Lm_eq (P : PG) (μ : AM) (d m pc : Nat) (ls : AL) (st : List AV) (w : AW) : Lm P μ d m pc ls st w = match (P.1 m).2.getD pc none with
    | none => none
    | some ri => stp μ ri pc ls st w (fun pc ls st w => Lm P μ d m pc ls st w) (fun r => some (r, w)) (fun mk args rest => Lk P μ d mk args w (fun r w => Lm P μ d m (pc + 3) ls (r.toList ++ rest) w)) none := by
  apply Option.ext
  intro r
  constructor
  · intro h
    obtain ⟨n, hn⟩ := Lm_iff.mp h
    cases n with
    | zero => cases hn
    | succ n =>
      rw [ex] at hn
      cases hc : (P.1 m).2.getD pc none with
      | none => rw [hc] at hn; cases hn
      | some ri =>
        rw [hc] at hn
        simp only [] at hn ⊢
        rw [stp_eq] at hn ⊢
        cases ho : stpO μ ri pc ls st w with
        | none => rw [ho] at hn; cases hn
        | some o =>
          rw [ho] at hn
          rcases o with ⟨a, b, c, e⟩ | r' | ⟨mk, args, rest⟩
          · exact Lm_iff.mpr ⟨n, hn⟩
          · exact hn
          · simp only [] at hn ⊢
            unfold Lk
            cases d with
            | zero => cases hn
            | succ d =>
              simp only [] at hn ⊢
              cases hv : (if mk = 9997 then vox P μ d args w (fun d a w => ex P μ n d P.2.1 0 (ent (P.1 P.2.1).1 a) [] w) else fitA P mk args (ex P μ n d mk 0 (ent (P.1 mk).1 args) [] w)) with
              | none => rw [hv] at hn; cases hn
              | some q =>
                rw [hv] at hn
                rw [Lc_iff.mpr ⟨n, hv⟩]
                exact Lm_iff.mpr ⟨n, hn⟩
  · intro h
    cases hc : (P.1 m).2.getD pc none with
    | none => rw [hc] at h; cases h
    | some ri =>
      rw [hc] at h
      simp only [] at h
      rw [stp_eq] at h
      cases ho : stpO μ ri pc ls st w with
      | none => rw [ho] at h; cases h
      | some o =>
        rw [ho] at h
        rcases o with ⟨a, b, c, e⟩ | r' | ⟨mq, args, rest⟩
        · obtain ⟨n, hn⟩ := Lm_iff.mp h
          refine Lm_iff.mpr ⟨n + 1, ?_⟩
          rw [ex, hc]
          simp only []
          rw [stp_eq, ho]
          exact hn
        · refine Lm_iff.mpr ⟨0 + 1, ?_⟩
          rw [ex, hc]
          simp only []
          rw [stp_eq, ho]
          exact h
        · simp only [] at h
          unfold Lk at h
          cases d with
          | zero => cases h
          | succ d =>
            simp only [] at h
            cases hv : Lc P μ d mq args w with
            | none => rw [hv] at h; cases h
            | some q =>
              rw [hv] at h
              obtain ⟨n1, h1⟩ := Lc_iff.mp hv
              obtain ⟨n2, h2⟩ := Lm_iff.mp h
              have h1' : (if mq = 9997 then vox P μ d args w (fun d a w => ex P μ (max n1 n2) d P.2.1 0 (ent (P.1 P.2.1).1 a) [] w) else fitA P mq args (ex P μ (max n1 n2) d mq 0 (ent (P.1 mq).1 args) [] w)) = some q := by
                by_cases hm : mq = 9997
                · rw [if_pos hm] at h1 ⊢
                  exact vox_mono (fun d a w r h => ex_up h (Nat.le_max_left n1 n2)) h1
                · rw [if_neg hm] at h1 ⊢
                  exact fitA_iff.mpr ⟨(fitA_iff.mp h1).1, ex_up (fitA_iff.mp h1).2 (Nat.le_max_left n1 n2)⟩
              refine Lm_iff.mpr ⟨max n1 n2 + 1, ?_⟩
              rw [ex, hc]
              simp only []
              rw [stp_eq, ho]
              simp only []
              rw [h1']
              exact ex_up h2 (Nat.le_max_right n1 n2)
/-- k instructions on, up to the places where it stops -/
noncomputable def unf (P : PG) (μ : AM) (sp : Nat → Bool) : Nat → Nat → Nat → Nat → AL → List AV → AW → RS
  | 0, d, m, pc, ls, st, w => Lm P μ d m pc ls st w
  | k + 1, d, m, pc, ls, st, w => match (P.1 m).2.getD pc none with
    | none => none
    | some ri => stp μ ri pc ls st w (fun pc ls st w => if sp pc = true then Lm P μ d m pc ls st w else unf P μ sp k d m pc ls st w) (fun r => some (r, w))
        (fun mk args rest => Lk P μ d mk args w (fun r w => if sp (pc + 3) = true then Lm P μ d m (pc + 3) ls (r.toList ++ rest) w else unf P μ sp k d m (pc + 3) ls (r.toList ++ rest) w)) none
theorem Lm_unf (P : PG) (μ : AM) (sp : Nat → Bool) (k : Nat) : ∀ (d m pc : Nat) (ls : AL) (st : List AV) (w : AW), Lm P μ d m pc ls st w = unf P μ sp k d m pc ls st w := by
  induction k with
  | zero => intros; rfl
  | succ k ih =>
    intro d m pc ls st w
    rw [Lm_eq, unf]
    have e1 : (fun pc ls st w => if sp pc = true then Lm P μ d m pc ls st w else unf P μ sp k d m pc ls st w) = (fun pc ls st w => Lm P μ d m pc ls st w) := by
      funext pc ls st w
      rw [← ih]
      split <;> rfl
    have e2 : (fun mk args rest => Lk P μ d mk args w (fun r w => if sp (pc + 3) = true then Lm P μ d m (pc + 3) ls (r.toList ++ rest) w else unf P μ sp k d m (pc + 3) ls (r.toList ++ rest) w)) = (fun mk args rest => Lk P μ d mk args w (fun r w => Lm P μ d m (pc + 3) ls (r.toList ++ rest) w)) := by
      funext mk args rest
      congr 1
      funext r w
      rw [← ih]
      split <;> rfl
    rw [e1, e2]
