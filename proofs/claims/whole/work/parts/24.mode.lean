/-! WHAT IS KNOWN OF THE FIRST CELLS is only a help: a run that is told so is a run without. -/
def StOK (μ : AM) (w : AW) : Prop := μ.1 ≤ w.1 ∧ (∀ a, a < μ.1 → w.2.2.1 a = μ.2.1 a) ∧ ∀ a, a < μ.1 → ∀ k : Nat, ¬ μ.2.2 a k = 0 → w.2.2.2 a k = μ.2.2 a k
def MuOK (μ : AM) : Prop := ∀ a, a < μ.1 → 100 ≤ (μ.2.1 a).1 → ∀ k : Nat, μ.2.2 a k = 0
theorem sh_mode {μ : AM} {w : AW} (h : StOK μ w) (a : Nat) : shv μ w a = shv M1 w a := by
  have e : shv M1 w a = w.2.2.1 a := by simp [shv, M1]
  rw [e]
  unfold shv
  split
  · rename_i q; exact (h.2.1 a q).symm
  · rfl
theorem cv_mode {μ : AM} {w : AW} (h : StOK μ w) (a k : Nat) : cv μ w a k = cv M1 w a k := by
  have e : cv M1 w a k = w.2.2.2 a k := by simp [cv, M1]
  rw [e]
  unfold cv
  split
  · rename_i q
    split
    · rfl
    · rename_i r; exact (h.2.2 a q k r).symm
  · rfl
theorem ar_mode {β : Type} {μ : AM} {w : AW} (h : StOK μ w) (x : Int) (c1 c2 c3 : Nat) (ks : β) (k : Nat → Nat → β) : arN μ w x c1 c2 c3 ks k = arN M1 w x c1 c2 c3 ks k := by
  unfold arN
  rw [sh_mode h]
theorem stpO_mode {μ : AM} {ri : RI} {pc : Nat} {ls : AL} {st : List AV} {w : AW} (hS : StOK μ w) {o : Out} (h : stpO μ ri pc ls st w = some o) : stpO M1 ri pc ls st w = some o := by
  obtain ⟨i, a, b, v⟩ := ri
  cases i
  case getfield idx =>
    simp only [stpO, stp, sh_mode hS, cv_mode hS] at h ⊢
    exact h
  case putfield idx =>
    simp only [stpO, stp, sh_mode hS] at h ⊢
    cases st with
    | nil => cases h
    | cons y st =>
      cases st with
      | nil => cases h
      | cons x st =>
        rcases x with x | x | x
        · cases h
        · cases h
        · simp only [pV, pA] at h ⊢
          by_cases h1 : 0 < x
          · rw [if_pos h1] at h ⊢
            by_cases h2 : (shv M1 w (adr x)).1 = a
            · rw [if_pos h2] at h ⊢
              by_cases h3 : avok v y = true
              · rw [if_pos h3] at h ⊢
                rw [if_neg (show ¬ (adr x < M1.1 ∧ ¬ M1.2.2 (adr x) b = 0) from fun q => Nat.not_lt_zero _ q.1)]
                split at h
                · cases h
                · exact h
              · rw [if_neg h3] at h; cases h
            · rw [if_neg h2] at h; cases h
          · rw [if_neg h1] at h; cases h
  case iaload => simp only [stpO, stp, ar_mode hS] at h ⊢; exact h
  case laload => simp only [stpO, stp, ar_mode hS] at h ⊢; exact h
  case baload => simp only [stpO, stp, ar_mode hS] at h ⊢; exact h
  case aaload => simp only [stpO, stp, ar_mode hS] at h ⊢; exact h
  case iastore => simp only [stpO, stp, ar_mode hS] at h ⊢; exact h
  case lastore => simp only [stpO, stp, ar_mode hS] at h ⊢; exact h
  case bastore => simp only [stpO, stp, ar_mode hS, sh_mode hS] at h ⊢; exact h
  case aastore => simp only [stpO, stp, ar_mode hS, sh_mode hS] at h ⊢; exact h
  case arraylength => simp only [stpO, stp, sh_mode hS] at h ⊢; exact h
  case invokestatic idx => simp only [stpO, stp, ar_mode hS] at h ⊢; exact h
  case invokevirtual idx => simp only [stpO, stp, sh_mode hS] at h ⊢; exact h
  all_goals exact h
theorem st_arr0 {μ : AM} {w : AW} {a : Nat} {i y : Int} (h : StOK μ w) (hM : MuOK μ) (hc : a < μ.1 → 100 ≤ (μ.2.1 a).1) : StOK μ (wC w a i y) := by
  refine ⟨h.1, h.2.1, fun a' ha k hk => ?_⟩
  show upC w.2.2.2 a i y a' k = _
  rw [upC, if_neg]
  · exact h.2.2 a' ha k hk
  · rintro ⟨rfl, -⟩
    exact hk (hM a' ha (hc ha) k)
theorem st_arr {μ : AM} {w : AW} {a : Nat} {i y : Int} (h : StOK μ w) (hM : MuOK μ) (hc : 100 ≤ (shv μ w a).1) : StOK μ (wC w a i y) := by
  refine st_arr0 h hM (fun ha => ?_)
  unfold shv at hc
  rwa [if_pos ha] at hc
theorem st_fld {μ : AM} {w : AW} {a b : Nat} {y : Int} (h : StOK μ w) (hn : ¬ (a < μ.1 ∧ ¬ μ.2.2 a b = 0)) : StOK μ (wC w a b y) := by
  refine ⟨h.1, h.2.1, fun a' ha k hk => ?_⟩
  show upC w.2.2.2 a b y a' k = _
  rw [upC, if_neg]
  · exact h.2.2 a' ha k hk
  · rintro ⟨rfl, e⟩
    have : k = b := by omega
    subst this
    exact hn ⟨ha, hk⟩
theorem st_cp {μ : AM} {w : AW} {s t : Nat} {sp tp n : Int} (h : StOK μ w) (hM : MuOK μ) (hc : 100 ≤ (shv μ w t).1) : StOK μ (w.1, w.2.1, w.2.2.1, cpC w.2.2.2 s sp t tp n) := by
  refine ⟨h.1, h.2.1, fun a' ha k hk => ?_⟩
  show cpC w.2.2.2 s sp t tp n a' k = _
  rw [cpC, if_neg]
  · exact h.2.2 a' ha k hk
  · rintro ⟨rfl, -⟩
    unfold shv at hc
    rw [if_pos ha] at hc
    exact hk (hM a' ha hc k)
theorem st_al {μ : AM} {w : AW} {c n : Nat} (h : StOK μ w) : StOK μ (alloc w c n) := by
  refine ⟨Nat.le_succ_of_le h.1, fun a ha => ?_, h.2.2⟩
  show upS w.2.2.1 w.1 (c, n) a = _
  have := h.1
  rw [upS, if_neg (by omega)]
  exact h.2.1 a ha
theorem g_ar2 {μ : AM} {w : AW} {x : Int} {c1 c2 c3 : Nat} {k : Nat → Nat → Prop} (h : ((shv μ w (adr x)).1 = c1 ∨ (shv μ w (adr x)).1 = c2 ∨ (shv μ w (adr x)).1 = c3) → k (adr x) (shv μ w (adr x)).2) : arN μ w x c1 c2 c3 True k := by
  unfold arN
  split
  · split
    · rename_i q; exact h q
    · trivial
  · trivial
theorem g_if2 {c : Prop} [Decidable c] {a b : Prop} (h1 : c → a) (h2 : ¬ c → b) : (if c then a else b) := by
  split
  · rename_i q; exact h1 q
  · rename_i q; exact h2 q
set_option maxHeartbeats 4000000 in
theorem stp_st {μ : AM} (hM : MuOK μ) (ri : RI) (pc : Nat) (ls : AL) (st : List AV) (w : AW) (hS : StOK μ w) : stp μ ri pc ls st w (fun _ _ _ w' => StOK μ w') (fun _ => True) (fun _ _ _ => True) True := by
  obtain ⟨i, a, b, v⟩ := ri
  cases i
  case iastore =>
    refine g_pI fun _ _ => g_pI fun _ _ => g_pA fun _ _ => g_ar2 fun hc => g_inx ?_
    exact st_arr hS hM (by omega)
  case lastore =>
    refine g_pJ fun _ _ => g_pI fun _ _ => g_pA fun _ _ => g_ar2 fun hc => g_inx ?_
    exact st_arr hS hM (by omega)
  case bastore =>
    refine g_pI fun _ _ => g_pI fun _ _ => g_pA fun _ _ => g_ar2 fun hc => g_inx ?_
    exact g_if (g_if (st_arr hS hM (by omega)) trivial) (g_if (st_arr hS hM (by omega)) trivial)
  case aastore =>
    refine g_pA fun _ _ => g_pI fun _ _ => g_pA fun _ _ => g_ar2 fun hc => g_inx ?_
    exact g_if (st_arr hS hM (by omega)) trivial
  case putfield idx =>
    refine g_pV fun _ _ => g_pA fun _ _ => g_if (g_if (g_if (g_if2 (fun _ => trivial) (fun hn => ?_)) trivial) trivial) trivial
    exact st_fld hS hn
  case invokestatic idx =>
    refine g_if (g_pI fun _ _ => g_pI fun _ _ => g_pA fun _ _ => g_pI fun _ _ => g_pA fun _ _ => g_ar2 fun _ => g_ar2 fun hc => g_if ?_ trivial) (g_if trivial trivial)
    exact st_cp hS hM (by omega)
  all_goals simp only [stp] <;> repeat (first
    | exact True.intro
    | exact hS
    | exact st_al hS
    | (refine g_pI fun _ _ => ?_) | (refine g_pII fun _ _ _ => ?_) | (refine g_pJ fun _ _ => ?_) | (refine g_pJJ fun _ _ _ => ?_) | (refine g_pA fun _ _ => ?_) | (refine g_pV fun _ _ => ?_)
    | (refine g_lI fun _ => ?_) | (refine g_lJ fun _ => ?_) | (refine g_lA fun _ => ?_) | (refine g_arN fun _ _ => ?_) | (refine g_inx ?_) | (refine g_swi (fun _ => ?_) _ _) | (refine g_swl (fun _ => ?_) _) | (refine g_cnd ?_ ?_) | (refine g_if ?_ ?_))
theorem stpO_st {μ : AM} (hM : MuOK μ) {ri : RI} {pc : Nat} {ls : AL} {st : List AV} {w : AW} (hS : StOK μ w) {a : Nat} {b : AL} {c : List AV} {w' : AW} (h : stpO μ ri pc ls st w = some (.inl (a, b, c, w'))) : StOK μ w' := by
  have := stp_st hM ri pc ls st w hS
  rw [stp_eq, h] at this
  exact this
theorem vox_mode {P : PG} {μ : AM} (hM : MuOK μ) {d : Nat} {args : List AV} {w : AW} (hS : StOK μ w) {f g : Nat → List AV → AW → RS} (h : ∀ d a w r, StOK μ w → f d a w = some r → g d a w = some r ∧ StOK μ r.2) {r : Option AV × AW} (hr : vox P μ d args w f = some r) : vox P M1 d args w g = some r ∧ StOK μ r.2 := by
  unfold vox at hr ⊢
  split at hr
  · split at hr
    · split at hr
      · rename_i hc
        split at hr
        · rename_i hq
          obtain ⟨g1, g2⟩ := h _ _ _ _ hS hq
          have e3 : shv M1 w = shv μ w := funext fun a => (sh_mode hS a).symm
          rw [e3, ← cv_mode hS, if_pos hc, g1]
          simp only []
          split at hr
          · rename_i e
            rw [if_pos e]
            cases hr
            exact ⟨rfl, st_al g2⟩
          · rename_i e
            rw [if_neg e]
            split at hr
            · rename_i e5
              cases hr
              rw [← sh_mode g2, if_pos e5]
              refine ⟨rfl, st_arr0 g2 hM (fun ha => ?_)⟩
              have e4 := hc.1.2.2.2
              unfold shv at e4
              rw [if_pos ha] at e4
              rw [e4]
              decide
            · cases hr
        · cases hr
      · cases hr
    · cases hr
  · cases hr
theorem ex_mode {P : PG} {μ : AM} (hM : MuOK μ) (n : Nat) : ∀ {d m pc : Nat} {ls : AL} {st : List AV} {w : AW} {r : Option AV × AW}, StOK μ w → ex P μ n d m pc ls st w = some r → ex P M1 n d m pc ls st w = some r ∧ StOK μ r.2 := by
  induction n with
  | zero => intro d m pc ls st w r _ h; cases h
  | succ n ih =>
    intro d m pc ls st w r hS h
    rw [ex] at h ⊢
    cases hc : (P.1 m).2.getD pc none with
    | none => rw [hc] at h; cases h
    | some ri =>
      rw [hc] at h
      simp only [] at h ⊢
      rw [stp_eq] at h ⊢
      cases ho : stpO μ ri pc ls st w with
      | none => rw [ho] at h; cases h
      | some o =>
        rw [ho] at h
        rw [stpO_mode hS ho]
        rcases o with ⟨a, b, c, e⟩ | r' | ⟨mq, args, rest⟩
        · exact ih (stpO_st hM hS ho) h
        · cases h; exact ⟨rfl, hS⟩
        · simp only [] at h ⊢
          cases d with
          | zero => cases h
          | succ d =>
            simp only [] at h ⊢
            by_cases hm : mq = 9997
            · rw [if_pos hm] at h ⊢
              cases hv : vox P μ d args w (fun d a w => ex P μ n d P.2.1 0 (ent (P.1 P.2.1).1 a) [] w) with
              | none => rw [hv] at h; cases h
              | some q =>
                rw [hv] at h
                obtain ⟨g1, g2⟩ := vox_mode hM hS (g := fun d a w => ex P M1 n d P.2.1 0 (ent (P.1 P.2.1).1 a) [] w) (fun d a w r hS h => ih hS h) hv
                rw [g1]
                exact ih g2 h
            · rw [if_neg hm] at h ⊢
              cases hv : fitA P mq args (ex P μ n d mq 0 (ent (P.1 mq).1 args) [] w) with
              | none => rw [hv] at h; cases h
              | some q =>
                rw [hv] at h
                obtain ⟨f1, f2⟩ := fitA_iff.mp hv
                obtain ⟨g1, g2⟩ := ih hS f2
                rw [fitA_iff.mpr ⟨f1, g1⟩]
                exact ih g2 h
theorem Lm_mode {P : PG} {μ : AM} (hM : MuOK μ) {d m pc : Nat} {ls : AL} {st : List AV} {w : AW} {r : Option AV × AW} (hS : StOK μ w) (h : Lm P μ d m pc ls st w = some r) : Lm P M1 d m pc ls st w = some r := by
  obtain ⟨n, hn⟩ := Lm_iff.mp h
  exact Lm_iff.mpr ⟨n, (ex_mode hM n hS hn).1⟩
