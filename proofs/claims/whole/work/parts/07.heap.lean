def aty (c : Nat) : FieldType := if c = 100 ∨ c = 110 then .int else if c = 101 then .long else if c = 103 then .boolean else if c = 104 then .object "EchoTune$State" else .byte
def akd (c : Nat) : Int := if c = 101 then 1 else if c = 104 then 2 else 0
def gA (G : GE) : Nat → Prop := fun q => G.1 ≤ q
/-- an array's cell -/
def AR (G : GE) (U : State) (H : Heap) (a c n : Nat) (f : Int → Int) : Prop :=
  (∃ cell : Cell, H[gad G a]? = some cell ∧ U.isArrayOf cell (aty c) ∧ cell.vm ≠ .unknown ∧ cell.slots.size = n ∧ (c < 105 → cell = arrV cell.cls n (fun j : Nat => gv G (tagv (akd c) (f j))) ∧ va_RA U cell.cls (aty c)) ∧ ∀ j : Nat, j < n → cell.slots[j]? = some (gv G (tagv (akd c) (f j)))) ∧ n < 2 ^ 31 ∧ ∀ j : Int, okv (tagv (akd c) (f j))
/-- an object's cell -/
def OR (G : GE) (H : Heap) (a c : Nat) (f : Int → Int) : Prop :=
  t_OB (gad G a) (G.2.2.2.1 c) (nF c) (G.2.2.2.2 c) H (fun k => gv G (tagv (fk c k) (f k))) ∧ ∀ k : Nat, k < nF c → okv (tagv (fk c k) (f k))
/-- a constant text's cell -/
def TR (G : GE) (U : State) (H : Heap) (a : Nat) (f : Int → Int) : Prop :=
  va_O "java/lang/String" (gad G a) (gA G) U H ∧ va_OF "java/lang/String" "value" "[B" (gv G (.inr (.inr (f 0)))) (gad G a) (gA G) U H ∧ va_OF "java/lang/String" "coder" "B" (.int 0) (gad G a) (gA G) U H ∧ f 1 = 0
def CR (G : GE) (μ : AM) (U : State) (w : AW) (H : Heap) (a : Nat) : Prop :=
  ((shv μ w a).1 < 13 → OR G H a (shv μ w a).1 (cv μ w a)) ∧ ((shv μ w a).1 = 60 → TR G U H a (cv μ w a)) ∧ (100 ≤ (shv μ w a).1 ∧ (shv μ w a).1 ≤ 112 → AR G U H a (shv μ w a).1 (shv μ w a).2 (w.2.2.2 a))
def HR (G : GE) (μ : AM) (U : State) (w : AW) (H : Heap) : Prop :=
  H.size = G.1 + (w.1 - 53) ∧ 53 ≤ w.1 ∧ μ.1 ≤ w.1 ∧ (∀ a, w.1 ≤ a → w.2.2.1 a = (999, 0) ∧ ∀ k, w.2.2.2 a k = 0) ∧ (∀ a, a < 53 → G.2.1 a < G.1 ∧ ((shv μ w a).1 = 110 ∨ (shv μ w a).1 = 60 ∨ (shv μ w a).1 = 112)) ∧ ∀ a, a < w.1 → CR G μ U w H a
theorem AR.moved {G : GE} {u U : State} {H : Heap} {a c n : Nat} {f : Int → Int} (hvm : u.vm.Alike U.vm) (h : AR G u H a c n f) : AR G U H a c n f := by
  obtain ⟨⟨cell, h1, h2, h3, h4, h5, h6⟩, h7⟩ := h
  exact ⟨⟨cell, h1, State.isArrayOf_alike hvm h2, h3, h4, fun q => ⟨(h5 q).1, (h5 q).2.moved hvm⟩, h6⟩, h7⟩
theorem CR.moved {G : GE} {μ : AM} {u U : State} {w : AW} {H : Heap} {a : Nat} (hvm : u.vm.Alike U.vm) (h : CR G μ u w H a) : CR G μ U w H a :=
  ⟨h.1, fun q => ⟨(h.2.1 q).1.moved hvm, (h.2.1 q).2.1.moved hvm, (h.2.1 q).2.2.1.moved hvm, (h.2.1 q).2.2.2⟩, fun q => (h.2.2 q).moved hvm⟩
theorem HR.moved {G : GE} {μ : AM} {u U : State} {w : AW} {H : Heap} (hvm : u.vm.Alike U.vm) (h : HR G μ u w H) : HR G μ U w H :=
  ⟨h.1, h.2.1, h.2.2.1, h.2.2.2.1, h.2.2.2.2.1, fun a q => (h.2.2.2.2.2 a q).moved hvm⟩
theorem CR.kept {G : GE} {μ : AM} {U : State} {w w' : AW} {H H' : Heap} {a : Nat} (h : CR G μ U w H a) (hs : shv μ w' a = shv μ w a) (hc : ∀ k, w'.2.2.2 a k = w.2.2.2 a k) (hH : H'[gad G a]? = H[gad G a]?) : CR G μ U w' H' a := by
  have hv : cv μ w' a = cv μ w a := by funext k; simp only [cv, hc]
  have hf : w'.2.2.2 a = w.2.2.2 a := funext hc
  unfold CR
  rw [hs, hv, hf]
  refine ⟨fun q => ?_, fun q => ?_, fun q => ?_⟩
  · obtain ⟨h1, h2⟩ := h.1 q
    exact ⟨h1.kept hH, h2⟩
  · obtain ⟨h1, h2, h3, h4⟩ := h.2.1 q
    refine ⟨?_, ?_, ?_, h4⟩
    · obtain ⟨c1, c2⟩ := h1; exact ⟨c1, by rw [hH]; exact c2⟩
    · obtain ⟨x1, x2, x3, x4, x5, y1, y2, y3, y4⟩ := h2; exact ⟨x1, x2, x3, x4, x5, y1, y2, by rw [hH]; exact y3, y4⟩
    · obtain ⟨x1, x2, x3, x4, x5, y1, y2, y3, y4⟩ := h3; exact ⟨x1, x2, x3, x4, x5, y1, y2, by rw [hH]; exact y3, y4⟩
  · obtain ⟨⟨cell, h1, h2⟩, h3⟩ := h.2.2 q
    exact ⟨⟨cell, by rw [hH]; exact h1, h2⟩, h3⟩
theorem HR.new53 {G : GE} {μ : AM} {U : State} {w : AW} {H : Heap} {a : Nat} (h : HR G μ U w H) (hc : ¬ ((shv μ w a).1 = 110 ∨ (shv μ w a).1 = 60 ∨ (shv μ w a).1 = 112)) : 53 ≤ a := by
  rcases Nat.lt_or_ge a 53 with q | q
  · exact absurd (h.2.2.2.2.1 a q).2 hc
  · exact q
theorem HR.lt {G : GE} {μ : AM} {U : State} {w : AW} {H : Heap} {a : Nat} (h : HR G μ U w H) (hc : (shv μ w a).1 ≠ 999) : a < w.1 := by
  rcases Nat.lt_or_ge a w.1 with q | q
  · exact q
  · refine absurd ?_ hc
    unfold shv
    rw [if_neg (by have := h.2.2.1; omega), (h.2.2.2.1 a q).1]
theorem HR.apart {G : GE} {μ : AM} {U : State} {w : AW} {H : Heap} {a b : Nat} (h : HR G μ U w H) (ha : 53 ≤ a) (hab : b ≠ a) : gad G b ≠ gad G a := by
  unfold gad
  rw [if_neg (show ¬ a < 53 by omega)]
  split
  · rename_i q
    have := (h.2.2.2.2.1 b q).1
    omega
  · omega
/-- one cell is written -/
theorem HR.upd {G : GE} {μ : AM} {U : State} {w w' : AW} {H H' : Heap} {a : Nat} (h : HR G μ U w H) (ha : 53 ≤ a) (hal : a < w.1) (h1 : w'.1 = w.1) (h2 : w'.2.2.1 = w.2.2.1) (h3 : ∀ b, b ≠ a → ∀ k, w'.2.2.2 b k = w.2.2.2 b k)
    (hz : H'.size = H.size) (hH : ∀ q, q ≠ gad G a → H'[q]? = H[q]?) (hC : CR G μ U w' H' a) : HR G μ U w' H' := by
  have hs : ∀ b, shv μ w' b = shv μ w b := fun b => by simp only [shv, h2]
  refine ⟨by rw [hz, h1]; exact h.1, by rw [h1]; exact h.2.1, by rw [h1]; exact h.2.2.1, fun b hb => ?_, fun b hb => ?_, fun b hb => ?_⟩
  · rw [h1] at hb
    obtain ⟨q1, q2⟩ := h.2.2.2.1 b hb
    exact ⟨by rw [h2]; exact q1, fun k => by rw [h3 b (by omega)]; exact q2 k⟩
  · rw [hs]; exact h.2.2.2.2.1 b hb
  · rw [h1] at hb
    by_cases e : b = a
    · subst e; exact hC
    · exact (h.2.2.2.2.2 b hb).kept (hs b) (h3 b e) (hH _ (h.apart ha e))
/-- a new cell -/
theorem HR.more {G : GE} {μ : AM} {U : State} {w : AW} {H H' : Heap} {c n : Nat} (h : HR G μ U w H) (hz : H'.size = H.size + 1) (hH : ∀ q, q < H.size → H'[q]? = H[q]?) (hC : CR G μ U (alloc w c n) H' w.1) : HR G μ U (alloc w c n) H' := by
  have hs : ∀ b, b ≠ w.1 → shv μ (alloc w c n) b = shv μ w b := fun b hb => by simp only [shv, alloc, upS, if_neg hb]
  have h53 := h.2.1
  refine ⟨?_, ?_, ?_, fun b hb => ?_, fun b hb => ?_, fun b hb => ?_⟩
  · show H'.size = G.1 + (w.1 + 1 - 53)
    rw [hz, h.1]; omega
  · show 53 ≤ w.1 + 1
    omega
  · show μ.1 ≤ w.1 + 1
    have := h.2.2.1; omega
  · have hb' : w.1 + 1 ≤ b := hb
    obtain ⟨q1, q2⟩ := h.2.2.2.1 b (by omega)
    exact ⟨by show upS w.2.2.1 w.1 (c, n) b = _; rw [upS, if_neg (by omega)]; exact q1, q2⟩
  · rw [hs b (by omega)]; exact h.2.2.2.2.1 b hb
  · have hb' : b < w.1 + 1 := hb
    by_cases e : b = w.1
    · subst e; exact hC
    · refine (h.2.2.2.2.2 b (by omega)).kept (hs b e) (fun _ => rfl) (hH _ ?_)
      unfold gad
      split
      · rename_i q; have := (h.2.2.2.2.1 b q).1; have := h.1; omega
      · have := h.1; omega

/-- an index within, in the real machine's words -/
theorem ix_in {i : Int32} {n : Nat} (h : 0 ≤ i.toInt ∧ i.toInt < n) : ¬ (i < 0 ∨ n ≤ i.toNatClampNeg) ∧ ((i.toNatClampNeg : Nat) : Int) = i.toInt ∧ i.toNatClampNeg < n := by
  have e : ((i.toNatClampNeg : Nat) : Int) = i.toInt := by
    show ((i.toInt.toNat : Nat) : Int) = i.toInt
    omega
  refine ⟨?_, e, by omega⟩
  rintro (q | q)
  · have : i.toInt < 0 := Int32.lt_iff_toInt_lt.mp q
    omega
  · omega
/-- a store into an array -/
theorem AR.set {G : GE} {U : State} {H H' : Heap} {a c n : Nat} {f : Int → Int} (h : AR G U H a c n f) (hc : c < 105) {k : Nat} (hk : k < n) {v : Int} (ok : okv (tagv (akd c) v)) {cell : Cell} (hcell : H[gad G a]? = some cell) (hH : H'[gad G a]? = some (cell.setSlot k (gv G (tagv (akd c) v)))) {g : Int → Int} (hg : ∀ j, g j = if j = (k : Int) then v else f j) : AR G U H' a c n g := by
  obtain ⟨⟨cell', h1, h2, h3, h4, h5, h6⟩, h7, h8⟩ := h
  cases hcell.symm.trans h1
  obtain ⟨e1, e2⟩ := h5 hc
  have e3 : cell.setSlot k (gv G (tagv (akd c) v)) = arrV cell.cls n (fun j : Nat => gv G (tagv (akd c) (g j))) := by
    rw [e1, arrV_store]
    show arrV cell.cls n _ = arrV cell.cls n _
    congr 1
    funext j
    simp only [updV, hg]
    by_cases q : j = k
    · rw [if_pos q, if_pos (by omega)]
    · rw [if_neg q, if_neg (by omega)]
  refine ⟨⟨_, hH, ?_, ?_, ?_, fun _ => ⟨e3, e2⟩, ?_⟩, h7, ?_⟩
  · obtain ⟨x1, x2⟩ := h2
    exact ⟨by rw [e1] at x1; rw [e3]; exact x1, x2⟩
  · rw [e3]; intro q; cases q
  · rw [e3, arrV_size]
  · intro j hj
    rw [e3, arrV_read _ _ hj]
  · intro j
    rw [hg]
    split
    · exact ok
    · exact h8 j
/-- a store into an object -/
theorem OR.set {G : GE} {H H' : Heap} {a c : Nat} {f g : Int → Int} {cell : Cell} (h : OR G H a c f) (hap : ∀ x y, x < nF c → y < nF c → x ≠ y → G.2.2.2.2 c x ≠ G.2.2.2.2 c y) {k : Nat} (hk : k < nF c) {v : Int} (ok : okv (tagv (fk c k) v)) (hcell : H[gad G a]? = some cell) (hH : H'[gad G a]? = some (cell.setSlot (G.2.2.2.2 c k) (gv G (tagv (fk c k) v)))) (hg : ∀ j : Nat, j < nF c → g j = if j = k then v else f j) : OR G H' a c g := by
  obtain ⟨⟨cell', h1, h2, h3, h4⟩, h5⟩ := h
  cases hcell.symm.trans h1
  refine ⟨⟨_, hH, h2, h3, fun j hj => ?_⟩, fun j hj => ?_⟩
  · rw [t_set h4 hap hk _ j hj]
    simp only [updV, hg j hj]
    by_cases q : j = k
    · rw [if_pos q, if_pos q, q]
    · rw [if_neg q, if_neg q]
  · rw [hg j hj]
    split
    · rename_i q; rw [q]; exact ok
    · exact h5 j hj
theorem cv_upd {μ : AM} {w : AW} {a : Nat} {k : Nat} {v : Int} (hn : ¬ (a < μ.1 ∧ ¬ μ.2.2 a k = 0)) (j : Nat) : cv μ (wC w a k v) a j = if j = k then v else cv μ w a j := by
  unfold cv wC upC
  by_cases q : j = k
  · subst q
    simp only []
    split
    · rename_i h1
      rw [if_pos (Decidable.byContradiction fun r => hn ⟨h1, r⟩)]
      simp
    · simp
  · have q' : ¬ ((j : Int) = (k : Int)) := by omega
    simp only [q', and_false, if_false, if_neg q]
set_option maxRecDepth 100000 in
theorem f_kd : ∀ c, c < 13 → ∀ k, k < nF c → ((fk c k = 0 ∧ fty c k = .int) ∨ (fk c k = 3 ∧ fty c k = .boolean) ∨ (fk c k = 1 ∧ fty c k = .long) ∨ (fk c k = 2 ∧ (fty c k).isReference = true)) := by decide +kernel
