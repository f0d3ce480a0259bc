def LR (G : GE) (nL : Nat) (L : AL) (ls : Array Slot) : Prop := ls.size = nL ∧ lv_wf ls ∧ L.length = nL ∧ ∀ (i : Nat) (v : AV), L.getD i none = some v → ls[i]? = some (.val (gv G v)) ∧ okv v
def lvOf (G : GE) (L : AL) : List (Nat × Value) := (List.range L.length).filterMap (fun i => (L.getD i none).map (fun v => (i, gv G v)))
theorem getD_lt {L : AL} {i : Nat} {v : AV} (h : L.getD i none = some v) : i < L.length := by
  rcases Nat.lt_or_ge i L.length with q | q
  · exact q
  · rw [List.getD_eq_getElem?_getD, List.getElem?_eq_none q] at h
    cases h
theorem lvOf_mem {G : GE} {L : AL} {i : Nat} {v : AV} (h : L.getD i none = some v) : (i, gv G v) ∈ lvOf G L := by
  refine List.mem_filterMap.mpr ⟨i, List.mem_range.mpr (getD_lt h), ?_⟩
  rw [h]; rfl
theorem LR.has {G : GE} {nL : Nat} {L : AL} {ls : Array Slot} (h : LR G nL L ls) : lv_has ls nL (lvOf G L) := by
  refine ⟨h.1, h.2.1, ?_⟩
  intro q hq
  obtain ⟨i, -, hi⟩ := List.mem_filterMap.mp hq
  cases hL : L.getD i none with
  | none => rw [hL] at hi; cases hi
  | some v =>
    rw [hL] at hi
    cases hi
    exact (h.2.2.2 i v hL).1
theorem getD_set {L : AL} {k i : Nat} {v : Option AV} (hk : k < L.length) : (L.set k v).getD i none = if i = k then v else L.getD i none := by
  simp only [List.getD_eq_getElem?_getD, List.getElem?_set]
  by_cases h : i = k
  · subst h; simp [hk]
  · rw [if_neg (Ne.symm h), if_neg h]
theorem clr_len (L : AL) (k : Nat) : (clr L k).length = L.length := by
  unfold clr
  split
  · rfl
  · split
    · exact List.length_set
    · rfl
theorem clr_get {L : AL} {k i : Nat} {u : AV} (h : (clr L k).getD i none = some u) (hi : i ≠ k) : L.getD i none = some u ∧ ¬ (i + 1 = k ∧ acat u = 2) := by
  unfold clr at h
  split at h
  · exact ⟨h, by omega⟩
  · rename_i k
    split at h
    · rename_i x hx
      rw [getD_set (getD_lt hx)] at h
      split at h
      · cases h
      · exact ⟨h, by omega⟩
    · rename_i hn
      refine ⟨h, ?_⟩
      rintro ⟨h1, h2⟩
      have : i = k := by omega
      subst this
      rcases u with u | u | u
      · cases h2
      · exact hn u h
      · cases h2
theorem LR.st1 {G : GE} {nL k : Nat} {L : AL} {ls ls' : Array Slot} {v : AV} (h : LR G nL L ls) (hk : k < nL) (ok : okv v)
    (h' : lv_has ls' nL ((k, gv G v) :: (lvOf G L).filter (fun q => !(q.1 == k) && !(q.1 + 1 == k && q.2.category == 2)))) : LR G nL (sto1 L k v) ls' := by
  obtain ⟨h1, h2, h3⟩ := h'
  refine ⟨h1, h2, by rw [sto1, List.length_set, clr_len]; exact h.2.2.1, ?_⟩
  intro i u hu
  rw [sto1, getD_set (by rw [clr_len, h.2.2.1]; exact hk)] at hu
  split at hu
  · rename_i e
    subst e
    cases hu
    exact ⟨h3 (i, gv G v) List.mem_cons_self, ok⟩
  · rename_i e
    obtain ⟨g1, g2⟩ := clr_get hu e
    refine ⟨h3 (i, gv G u) (List.mem_cons_of_mem _ (List.mem_filter.mpr ⟨lvOf_mem g1, ?_⟩)), (h.2.2.2 i u g1).2⟩
    simp only [gv_cat]
    simp
    exact ⟨e, by omega⟩
theorem LR.st2 {G : GE} {nL k : Nat} {L : AL} {ls ls' : Array Slot} {v : AV} (h : LR G nL L ls) (hk : k + 1 < nL) (ok : okv v)
    (h' : lv_has ls' nL ((k, gv G v) :: (lvOf G L).filter (fun q => !(q.1 == k) && (!(q.1 == k + 1) && !(q.1 + 1 == k && q.2.category == 2))))) : LR G nL (sto2 L k v) ls' := by
  obtain ⟨h1, h2, h3⟩ := h'
  refine ⟨h1, h2, by rw [sto2, List.length_set, List.length_set, clr_len]; exact h.2.2.1, ?_⟩
  intro i u hu
  rw [sto2, getD_set (by rw [List.length_set, clr_len, h.2.2.1]; exact hk), getD_set (by rw [clr_len, h.2.2.1]; omega)] at hu
  split at hu
  · cases hu
  · rename_i e2
    split at hu
    · rename_i e
      subst e
      cases hu
      exact ⟨h3 (i, gv G v) List.mem_cons_self, ok⟩
    · rename_i e
      obtain ⟨g1, g2⟩ := clr_get hu e
      refine ⟨h3 (i, gv G u) (List.mem_cons_of_mem _ (List.mem_filter.mpr ⟨lvOf_mem g1, ?_⟩)), (h.2.2.2 i u g1).2⟩
      simp only [gv_cat]
      simp
      exact ⟨e, e2, by omega⟩
/-- at a method's entry -/
theorem flt_len (args : List AV) : (flt args).length = asum args := by
  induction args with
  | nil => rfl
  | cons v l ih =>
    rcases v with x | x | x
    · simp [flt, asum, acat, ih]; omega
    · simp [flt, asum, acat, ih]; omega
    · simp [flt, asum, acat, ih]; omega
theorem flt_sl (G : GE) (args : List AV) : (lg_sl (args.map (gv G))).length = asum args := by
  induction args with
  | nil => rfl
  | cons v l ih =>
    have e : lg_sl ((v :: l).map (gv G)) = (if (gv G v).category = 2 then [.val (gv G v), .second] else [.val (gv G v)]) ++ lg_sl (l.map (gv G)) := rfl
    rw [e, List.length_append, ih, gv_cat]
    rcases v with x | x | x <;> simp [acat, asum]
theorem lg_sl_get (G : GE) : ∀ (args : List AV) (i : Nat) (v : AV), (flt args).getD i none = some v → v ∈ args ∧ (lg_sl (args.map (gv G)))[i]? = some (.val (gv G v)) := by
  intro args
  induction args with
  | nil => intro i v h; simp [flt] at h
  | cons a l ih =>
    intro i v h
    have e : lg_sl ((a :: l).map (gv G)) = (if (gv G a).category = 2 then [.val (gv G a), .second] else [.val (gv G a)]) ++ lg_sl (l.map (gv G)) := rfl
    rw [e, gv_cat]
    have one : acat a = 1 → flt (a :: l) = some a :: flt l → v ∈ a :: l ∧ ((if acat a = 2 then [Slot.val (gv G a), .second] else [.val (gv G a)]) ++ lg_sl (l.map (gv G)))[i]? = some (.val (gv G v)) := by
      intro h1 h2
      rw [h2] at h
      rw [if_neg (by omega)]
      cases i with
      | zero => simp at h; subst h; exact ⟨List.mem_cons_self, rfl⟩
      | succ i =>
        obtain ⟨q1, q2⟩ := ih i v (by simpa using h)
        exact ⟨List.mem_cons_of_mem _ q1, by simpa using q2⟩
    rcases a with x | x | x
    · exact one rfl rfl
    · rw [if_pos (show acat (.inr (.inl x)) = 2 from rfl)]
      rw [flt] at h
      match i, h with
      | 0, h => simp at h; subst h; exact ⟨List.mem_cons_self, rfl⟩
      | 1, h => simp at h
      | i + 2, h =>
        obtain ⟨q1, q2⟩ := ih i v (by simpa using h)
        exact ⟨List.mem_cons_of_mem _ q1, by simpa using q2⟩
    · exact one rfl rfl
theorem LR.entry (G : GE) (args : List AV) (mx : Nat) (hm : asum args ≤ mx) (ok : ∀ v ∈ args, okv v) : LR G mx (ent mx args) ((lg_sl (args.map (gv G)) ++ List.replicate (mx - (lg_sl (args.map (gv G))).length) Slot.unset).toArray) := by
  obtain ⟨h1, h2, -⟩ := lv_entry (args.map (gv G)) (n := mx) (by rw [flt_sl]; exact hm)
  refine ⟨h1, h2, by simp [ent, flt_len]; omega, ?_⟩
  intro i v h
  unfold ent at h
  rw [List.getD_eq_getElem?_getD, List.getElem?_append] at h
  split at h
  · rename_i hi
    have h' : (flt args).getD i none = some v := by rw [List.getD_eq_getElem?_getD]; exact h
    obtain ⟨q1, q2⟩ := lg_sl_get G args i v h'
    refine ⟨?_, ok v q1⟩
    have hlt : i < (lg_sl (args.map (gv G))).length := (List.getElem?_eq_some_iff.mp q2).1
    simp only [List.getElem?_toArray]
    rw [List.getElem?_append_left hlt]
    exact q2
  · rw [List.getElem?_replicate] at h
    split at h <;> cases h
