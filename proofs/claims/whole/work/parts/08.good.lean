def isSw : Instr → Bool
  | .tableswitch _ _ _ _ => true
  | .lookupswitch _ _ => true
  | _ => false
def ilen : Instr → Nat
  | .bipush _ => 2
  | .sipush _ => 3
  | .ldc _ => 2
  | .ldc_w _ => 3
  | .ldc2_w _ => 3
  | .iload _ => 2
  | .lload _ => 2
  | .aload _ => 2
  | .istore _ => 2
  | .lstore _ => 2
  | .astore _ => 2
  | .iinc _ _ => 3
  | .ifCond _ _ => 3
  | .if_icmp _ _ => 3
  | .goto _ => 3
  | .ifnull _ => 3
  | .ifnonnull _ => 3
  | .getfield _ => 3
  | .putfield _ => 3
  | .getstatic _ => 3
  | .invokespecial _ => 3
  | .invokestatic _ => 3
  | .invokevirtual _ => 3
  | .new _ => 3
  | .newarray _ => 2
  | .anewarray _ => 3
  | _ => 1
/-- what a return instruction's kind stands for -/
def rty (a : Nat) : Option FieldType := if a = 0 then some .int else if a = 3 then some .boolean else if a = 4 then some .char else if a = 5 then some .byte else none
/-- the links of an instruction are as its row says (sx: the texts' owners, places and words) -/
def LKok (sx : Nat → String × Nat × String) (own : String) (init : Bool) (ret : Option FieldType) (pc : Nat) (ri : RI) : Prop := match ri with
  | (i, a, b, v) => match i with
    | .iconst n => (Int32.ofInt n).toInt = n
    | .bipush n => (Int8.ofInt n).toInt32 = Int32.ofInt v ∧ (Int32.ofInt v).toInt = v
    | .sipush n => (Int16.ofInt n).toInt32 = Int32.ofInt v ∧ (Int32.ofInt v).toInt = v
    | .lconst n => v = ((n : Nat) : Int)
    | .ldc idx => (a = 0 ∧ (Int32.ofInt v).toInt = v ∧ Cond.constant own idx (Int32.ofInt v) ∈ WS) ∨ (a = 2 ∧ ∃ k : Nat, k < 26 ∧ v = (k : Int) + 2 ∧ (sx k).1 = own ∧ (sx k).2.1 = idx)
    | .ldc_w idx => (Int32.ofInt v).toInt = v ∧ Cond.constant own idx (Int32.ofInt v) ∈ WS
    | .ldc2_w idx => (Int64.ofInt v).toInt = v ∧ Cond.constantLong own idx (Int64.ofInt v) ∈ WS
    | .iload_n k => (k : Nat) = a
    | .lload_n k => (k : Nat) = a
    | .aload_n k => (k : Nat) = a
    | .istore_n k => (k : Nat) = a
    | .lstore_n k => (k : Nat) = a
    | .astore_n k => (k : Nat) = a
    | .goto off => (pc : Int) + off = (a : Int)
    | .ifCond _ off => (pc : Int) + off = (a : Int)
    | .if_icmp _ off => (pc : Int) + off = (a : Int)
    | .ifnull off => (pc : Int) + off = (a : Int)
    | .ifnonnull off => (pc : Int) + off = (a : Int)
    | .tableswitch d lo hi offs => hi = lo + (offs.toList.length : Int) - 1 ∧ 0 ≤ (pc : Int) + d ∧ ∀ o ∈ offs.toList, 0 ≤ (pc : Int) + o
    | .lookupswitch d ps => (ps.toList.zip (ps.toList.drop 1)).all (fun (a, next) => a.1 < next.1) = true ∧ 0 ≤ (pc : Int) + d ∧ ∀ o ∈ ps.toList, 0 ≤ (pc : Int) + o.2
    | .getfield idx => (a < 13 ∧ b < nF a ∧ v = fk a b ∧ Cond.fieldLink own idx (cN a) (fT a b).2.1 (fT a b).2.2.1 ∈ WS) ∨ (a = 60 ∧ b = 0 ∧ v = 2 ∧ Cond.fieldLink own idx "java/lang/String" "value" "[B" ∈ WS) ∨ (a = 60 ∧ b = 1 ∧ v = 0 ∧ Cond.fieldLink own idx "java/lang/String" "coder" "B" ∈ WS)
    | .putfield idx => a < 13 ∧ b < nF a ∧ v = fk a b ∧ Cond.fieldLink own idx (cN a) (fT a b).2.1 (fT a b).2.2.1 ∈ WS ∧ ((fT a b).2.2.2 = false ∨ ((fT a b).2.2.2 = true ∧ init = true ∧ cN a = own))
    | .getstatic idx => (a = 0 ∧ v = 1 ∧ Cond.fieldLink own idx "java/lang/String" "COMPACT_STRINGS" "Z" ∈ WS) ∨ (a = 2 ∧ v = -1 ∧ Cond.fieldLink own idx "jdk/internal/util/Preconditions" "SIOOBE_FORMATTER" "Ljava/util/function/BiFunction;" ∈ WS)
    | .new idx => a < 13 ∧ b = nF a ∧ Cond.classLink own idx (cN a) ∈ WS ∧ Cond.instantiable (cN a) b ∈ WS ∧ Cond.initialized (cN a) ∈ WS
    | .newarray t => Cond.arrayClass (newarray.typeOf t) ∈ WS ∧ ((a = 100 ∧ t = .int) ∨ (a = 101 ∧ t = .long) ∨ (a = 102 ∧ t = .byte) ∨ (a = 103 ∧ t = .boolean))
    | .anewarray idx => Cond.classLink own idx "EchoTune$State" ∈ WS
    | .ireturn => ret = rty a
    | .lreturn => ret = some .long
    | .return_ => ret = none
    | .aastore => b = 2
    | .invokespecial idx => a = 9999 → (Cond.methodLink own idx Lib.objectInit ∈ WS ∧ Cond.instanceMethod Lib.objectInit ∈ WS ∧ Cond.code Lib.objectInit ⟨#[0xb1]⟩ 1 none ∈ WS)
    | .invokestatic idx => a = 9998 → (Cond.methodLink own idx arraycopyName ∈ WS ∧ Cond.native arraycopyName ∈ WS ∧ Cond.static arraycopyName ∈ WS ∧ Cond.initialized "java/lang/System" ∈ WS)
    | _ => True
def RIok (sx : Nat → String × Nat × String) (own : String) (init : Bool) (ret : Option FieldType) (cc : ByteArray) (pc : Nat) (ri : RI) : Prop :=
  (∃ len, decode cc pc = .ok (ri.1, len) ∧ (isSw ri.1 = true ∨ len = ilen ri.1)) ∧ LKok sx own init ret pc ri
/-- links among nest mates -/
def nestL : List (String × Nat × MethodName) := [("EchoTune", 9, ⟨"EchoTune$Tape", "<init>", "()V"⟩), ("EchoTune$State", 11, ⟨"EchoTune$Rock", "<init>", "()V"⟩), ("EchoTune$RockReader", 11, ⟨"EchoTune$Rock", "<init>", "()V"⟩), ("EchoTune$Tables", 68, ⟨"EchoTune", "roomFor", "(III)I"⟩), ("EchoTune$Tally", 48, ⟨"EchoTune", "roomFor", "(III)I"⟩), ("EchoTune$Way", 119, ⟨"EchoTune", "roomFor", "(III)I"⟩), ("EchoTune$Forever", 71, ⟨"EchoTune", "roomFor", "(III)I"⟩), ("EchoTune$Circle", 74, ⟨"EchoTune", "roomFor", "(III)I"⟩)]
/-- what the virtual machine knows, whatever runs -/
def KF (sx : Nat → String × Nat × String) (G : GE) (U : State) : Prop :=
  (∀ c, c < 13 → u_Kn U (cN c) (fT c) (nF c) (G.2.2.2.1 c) (G.2.2.2.2 c)) ∧ (∀ k, k < 26 → vk_R (sx k).1 (sx k).2.1 (sx k).2.2 (G.2.1 (1 + k)) U) ∧ va_Z "java/lang/String" "COMPACT_STRINGS" "Z" (.int 1) (gA G) U U.heap ∧ va_Z "jdk/internal/util/Preconditions" "SIOOBE_FORMATTER" "Ljava/util/function/BiFunction;" (va_rf G.2.2.1) (gA G) U U.heap ∧ (va_AO "EchoTune$State" U ∧ vx_Zq Bundle.tN "UNASSIGNED_STACK" Bundle.steD (gA G) U U.heap ∧ vx_Zq Bundle.tN "SUPPRESSED_SENTINEL" Bundle.listD (gA G) U U.heap ∧ ∀ w ∈ xwL, va_Nw w U) ∧ ∀ q ∈ nestL, va_Nw (.methodLinkNest q.1 q.2.1 q.2.2 "EchoTune") U
def Cx (sx : Nat → String × Nat × String) (G : GE) (own : String) (cc : ByteArray) (nL : Nat) (p : Program) (s : State) (mI : MethodId) (args : Array Value) (meth : Method) (c : Code) : Prop :=
  p.tables.exec = Jvm.exec ∧ c.code = cc ∧ c.maxLocals = nL ∧ s.vm.findClass own = some mI.cls ∧ (∀ w ∈ WS, w.before args s = true) ∧ meth.locks = false ∧ KF sx G s
def Inv (G : GE) (μ : AM) (s : State) (nL : Nat) (w : AW) (H : Heap) (locs : List Loc) (ls : AL) (lsC : Array Slot) (st : List AV) : Prop :=
  HR G μ s w H ∧ va_S (gA G) s.heap H locs ∧ LR G nL ls lsC ∧ ∀ v ∈ st, okv v
def RetAt (ri : RI) (st : List AV) (r : Option AV) : Prop :=
  (ri.1 = .ireturn ∧ ∃ x, st = [.inl x] ∧ r = some (.inl x) ∧ rok ri.2.1 x = true) ∨ (ri.1 = .lreturn ∧ ∃ x, st = [.inr (.inl x)] ∧ r = some (.inr (.inl x))) ∨ (ri.1 = .return_ ∧ st = [] ∧ r = none)
def CallAt (μ : AM) (w : AW) (ri : RI) (st : List AV) (mq : Nat) (a rest : List AV) : Prop :=
  st = a.reverse ++ rest ∧ asum rest ≤ 8 ∧ a.length = ri.2.2.1 ∧ ((∃ k x l, ri.1 = .invokespecial k ∧ mq = ri.2.1 ∧ a = .inr (.inr x) :: l ∧ 0 < x) ∨ (∃ k, ri.1 = .invokestatic k ∧ mq = ri.2.1) ∨ ∃ k x l, ri.1 = .invokevirtual k ∧ mq = ri.2.1 ∧ a = .inr (.inr x) :: l ∧ 0 < x ∧ (shv μ w (adr x)).1 = ri.2.2.2.toNat)
section Inv1
theorem iI {st : List AV} {k : Int → List AV → Prop} (h : pI st False k) : ∃ x st', st = .inl x :: st' ∧ k x st' := by
  unfold pI at h; split at h
  · exact ⟨_, _, rfl, h⟩
  · exact h.elim
theorem iII {st : List AV} {k : Int → Int → List AV → Prop} (h : pII st False k) : ∃ x y st', st = .inl y :: .inl x :: st' ∧ k x y st' := by
  unfold pII at h; split at h
  · exact ⟨_, _, _, rfl, h⟩
  · exact h.elim
theorem iJ {st : List AV} {k : Int → List AV → Prop} (h : pJ st False k) : ∃ x st', st = .inr (.inl x) :: st' ∧ k x st' := by
  unfold pJ at h; split at h
  · exact ⟨_, _, rfl, h⟩
  · exact h.elim
theorem iJJ {st : List AV} {k : Int → Int → List AV → Prop} (h : pJJ st False k) : ∃ x y st', st = .inr (.inl y) :: .inr (.inl x) :: st' ∧ k x y st' := by
  unfold pJJ at h; split at h
  · exact ⟨_, _, _, rfl, h⟩
  · exact h.elim
theorem iA {st : List AV} {k : Int → List AV → Prop} (h : pA st False k) : ∃ x st', st = .inr (.inr x) :: st' ∧ k x st' := by
  unfold pA at h; split at h
  · exact ⟨_, _, rfl, h⟩
  · exact h.elim
theorem iV {st : List AV} {k : AV → List AV → Prop} (h : pV st False k) : ∃ x st', st = x :: st' ∧ k x st' := by
  unfold pV at h; split at h
  · exact ⟨_, _, rfl, h⟩
  · exact h.elim
theorem jI {ls : AL} {n : Nat} {k : Int → Prop} (h : lI ls n False k) : ∃ x, ls.getD n none = some (.inl x) ∧ k x := by
  unfold lI at h; split at h
  · rename_i e; exact ⟨_, e, h⟩
  · exact h.elim
theorem jJ {ls : AL} {n : Nat} {k : Int → Prop} (h : lJ ls n False k) : ∃ x, ls.getD n none = some (.inr (.inl x)) ∧ k x := by
  unfold lJ at h; split at h
  · rename_i e; exact ⟨_, e, h⟩
  · exact h.elim
theorem jA {ls : AL} {n : Nat} {k : Int → Prop} (h : lA ls n False k) : ∃ x, ls.getD n none = some (.inr (.inr x)) ∧ k x := by
  unfold lA at h; split at h
  · rename_i e; exact ⟨_, e, h⟩
  · exact h.elim
theorem iIf {c : Prop} [Decidable c] {a : Prop} (h : if c then a else False) : c ∧ a := by
  split at h
  · rename_i e; exact ⟨e, h⟩
  · exact h.elim
theorem iIfN {c : Prop} [Decidable c] {a : Prop} (h : if c then False else a) : ¬ c ∧ a := by
  split at h
  · exact h.elim
  · rename_i e; exact ⟨e, h⟩
theorem iAr {μ : AM} {w : AW} {x : Int} {c1 c2 c3 : Nat} {k : Nat → Nat → Prop} (h : arN μ w x c1 c2 c3 False k) : 0 < x ∧ ((shv μ w (adr x)).1 = c1 ∨ (shv μ w (adr x)).1 = c2 ∨ (shv μ w (adr x)).1 = c3) ∧ k (adr x) (shv μ w (adr x)).2 := by
  unfold arN at h
  obtain ⟨h1, h⟩ := iIf h
  obtain ⟨h2, h⟩ := iIf h
  exact ⟨h1, h2, h⟩
theorem iX {i : Int} {n : Nat} {k : Prop} (h : inx i n False k) : (0 ≤ i ∧ i < n) ∧ k := by
  unfold inx at h; exact iIf h
theorem Inv.stk {G : GE} {μ : AM} {s : State} {nL : Nat} {w : AW} {H : Heap} {locs : List Loc} {ls : AL} {lsC : Array Slot} {st st' : List AV} (I : Inv G μ s nL w H locs ls lsC st) (h : ∀ v ∈ st', okv v) : Inv G μ s nL w H locs ls lsC st' := ⟨I.1, I.2.1, I.2.2.1, h⟩
theorem ok1 {v : AV} {st st' : List AV} (h : ∀ v ∈ st', okv v) (hv : okv v) (hs : ∀ u ∈ st, u ∈ st') : ∀ u ∈ v :: st, okv u := by
  intro u hu
  rcases List.mem_cons.mp hu with e | e
  · rw [e]; exact hv
  · exact h u (hs u e)
end Inv1
theorem f_apart {args : Array Value} {s : State} (hts : ∀ w ∈ WS, w.before args s = true) {c : Nat} (hc : c < 13) {cC : ClassId} {iS : Nat → Nat} (hK : u_Kn s (cN c) (fT c) (nF c) cC iS) : ∀ x y, x < nF c → y < nF c → x ≠ y → iS x ≠ iS y := by
  intro x y hx hy hne
  obtain ⟨_, _, _, fa, hia, ea⟩ := hK.1 x hx
  obtain ⟨_, _, _, fb, hib, eb⟩ := hK.1 y hy
  rw [← ea, ← eb]
  refine u_apart (u_lays hts (f_ws c hc) hx) (u_lays hts (f_ws c hc) hy) hia hib ?_
  rw [(State.fieldFound?_type hia (f_ty c hc x hx)).1, (State.fieldFound?_type hib (f_ty c hc y hy)).1]
  exact f_nm c hc x hx y hy hne
theorem put_ok {G : GE} {c k : Nat} {y : AV} (hc : c < 13) (hk : k < nF c) (hav : avok (fk c k) y = true) : y = tagv (fk c k) (aval y) ∧ narrow (fty c k) (gv G y) = gv G y ∧ fits (fty c k) (gv G y) = true := by
  have hf := f_kd c hc k hk
  generalize fk c k = d at hav hf
  generalize fty c k = t at hf
  rcases hf with ⟨rfl, rfl⟩ | ⟨rfl, rfl⟩ | ⟨rfl, rfl⟩ | ⟨rfl, ht⟩
  · rcases y with y | y | y
    · exact ⟨rfl, rfl, rfl⟩
    · simp [avok] at hav
    · simp [avok] at hav
  · rcases y with y | y | y
    · have hy : y = 0 ∨ y = 1 := by simpa [avok] using hav
      rcases hy with rfl | rfl <;> exact ⟨rfl, rfl, rfl⟩
    · simp [avok] at hav
    · simp [avok] at hav
  · rcases y with y | y | y
    · simp [avok] at hav
    · exact ⟨rfl, rfl, rfl⟩
    · simp [avok] at hav
  · rcases y with y | y | y
    · simp [avok] at hav
    · simp [avok] at hav
    · refine ⟨rfl, ?_⟩
      rcases gv_ref G y with g | ⟨z, g⟩ <;> rw [g] <;> cases t <;> first | (exact ⟨rfl, rfl⟩) | (simp [FieldType.isReference] at ht)
theorem def_ok {G : GE} {c k : Nat} (hc : c < 13) (hk : k < nF c) : defaultValue (fty c k) = gv G (tagv (fk c k) 0) := by
  have hf := f_kd c hc k hk
  generalize fk c k = d at hf
  generalize fty c k = t at hf
  rcases hf with ⟨rfl, rfl⟩ | ⟨rfl, rfl⟩ | ⟨rfl, rfl⟩ | ⟨rfl, ht⟩
  · rfl
  · rfl
  · rfl
  · rw [show tagv 2 0 = .inr (.inr 0) from rfl, gv_n]
    cases t <;> first | rfl | (simp [FieldType.isReference] at ht)
theorem ok_z (d : Int) : okv (tagv d 0) := by
  unfold tagv
  split
  · exact ⟨0, rfl⟩
  · split
    · trivial
    · exact ⟨0, rfl⟩
theorem gad_new {G : GE} {a : Nat} (h : 53 ≤ a) : gA G (gad G a) := by
  unfold gA gad
  rw [if_neg (by omega)]
  omega
theorem gad_end {G : GE} {μ : AM} {U : State} {w : AW} {H : Heap} (h : HR G μ U w H) : gad G w.1 = H.size := by
  unfold gad
  rw [if_neg (by have := h.2.1; omega), h.1]
theorem adr_s (n : Nat) : adr ((n : Int) + 1) = n := by unfold adr; omega
theorem sh_new {μ : AM} {w : AW} {c n : Nat} (h : μ.1 ≤ w.1) : shv μ (alloc w c n) w.1 = (c, n) := by
  unfold shv alloc upS
  rw [if_neg (by omega)]
  simp
theorem cv_new {μ : AM} {w : AW} {c n : Nat} (h : μ.1 ≤ w.1) (hz : ∀ k, w.2.2.2 w.1 k = 0) (k : Int) : cv μ (alloc w c n) w.1 k = 0 := by
  unfold cv
  rw [if_neg (by omega)]
  exact hz k
theorem swi_inv {x : Int} {pc : Nat} {d : Int} {k : Nat → Prop} : ∀ {os : List Int} {lo : Int}, swi x pc d k os lo → ((x < lo ∨ lo + (os.length : Int) - 1 < x) ∧ k ((pc : Int) + d).toNat) ∨ ∃ o, lo ≤ x ∧ x ≤ lo + (os.length : Int) - 1 ∧ os[(x - lo).toNat]? = some o ∧ o ∈ os ∧ k ((pc : Int) + o).toNat := by
  intro os
  induction os with
  | nil => intro lo h; exact Or.inl ⟨by simp; omega, h⟩
  | cons o os ih =>
    intro lo h
    rw [swi] at h
    split at h
    · rename_i e
      exact Or.inr ⟨o, by omega, by simp; omega, by rw [e]; simp, List.mem_cons_self, h⟩
    · rename_i e
      rcases ih h with ⟨h1, h2⟩ | ⟨o', h1, h2, h3, h4, h5⟩
      · refine Or.inl ⟨?_, h2⟩
        simp only [List.length_cons]
        omega
      · refine Or.inr ⟨o', by omega, by simp only [List.length_cons]; omega, ?_, List.mem_cons_of_mem _ h4, h5⟩
        rw [show (x - lo).toNat = (x - (lo + 1)).toNat + 1 by omega, List.getElem?_cons_succ]
        exact h3
theorem swl_inv {x : Int} {pc : Nat} {d : Int} {k : Nat → Prop} : ∀ {os : List (Int × Int)}, swl x pc d k os → (∀ o ∈ os, 0 ≤ (pc : Int) + o.2) → 0 ≤ (pc : Int) + d → 0 ≤ (pc : Int) + Op.lookupswitch.offset os d x ∧ k ((pc : Int) + Op.lookupswitch.offset os d x).toNat := by
  intro os
  induction os with
  | nil => intro h _ hd; exact ⟨hd, h⟩
  | cons o os ih =>
    intro h ho hd
    rw [swl] at h
    obtain ⟨o1, o2⟩ := o
    rw [Op.lookupswitch.offset_cons]
    split at h
    · rename_i e
      rw [if_pos (by first | exact e.symm | exact e)]
      exact ⟨ho _ List.mem_cons_self, h⟩
    · rename_i e
      rw [if_neg (by first | exact fun q => e q.symm | exact e)]
      exact ih h (fun o q => ho o (List.mem_cons_of_mem _ q)) hd
