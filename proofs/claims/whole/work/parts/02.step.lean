/-- what is known of the first cells, whatever the world: how many, their shapes, the references that they hold for ever -/
abbrev AM : Type := Nat × (Nat → Nat × Nat) × (Nat → Int → Int)
def shv (μ : AM) (w : AW) (a : Nat) : Nat × Nat := if a < μ.1 then μ.2.1 a else w.2.2.1 a
def cv (μ : AM) (w : AW) (a : Nat) (k : Int) : Int := if a < μ.1 then (if μ.2.2 a k = 0 then w.2.2.2 a k else μ.2.2 a k) else w.2.2.2 a k
def avok (kd : Int) (y : AV) : Bool := match y with
  | .inl y => decide (kd = 0) || (decide (kd = 3) && (decide (y = 0) || decide (y = 1)))
  | .inr (.inl _) => decide (kd = 1)
  | .inr (.inr _) => decide (kd = 2)
def aval : AV → Int
  | .inl y => y
  | .inr (.inl y) => y
  | .inr (.inr y) => y
def rok (a : Nat) (x : Int) : Bool := decide (a = 0) || (decide (a = 3) && (decide (x = 0) || decide (x = 1))) || (decide (a = 4) && decide (0 ≤ x) && decide (x < 65536)) || (decide (a = 5) && decide (-128 ≤ x) && decide (x < 128))
section Stp
variable {β : Type}
def pV (st : List AV) (ks : β) (k : AV → List AV → β) : β := match st with
  | v :: st => k v st
  | [] => ks
def lI (ls : AL) (n : Nat) (ks : β) (k : Int → β) : β := match ls.getD n none with
  | some (.inl x) => k x
  | _ => ks
def lJ (ls : AL) (n : Nat) (ks : β) (k : Int → β) : β := match ls.getD n none with
  | some (.inr (.inl x)) => k x
  | _ => ks
def lA (ls : AL) (n : Nat) (ks : β) (k : Int → β) : β := match ls.getD n none with
  | some (.inr (.inr x)) => k x
  | _ => ks
def cnd (c : ClassFile.Cond) (x y : Int) (t f : β) : β := match c with
  | .eq => if x = y then t else f
  | .ne => if x = y then f else t
  | .lt => if x < y then t else f
  | .ge => if x < y then f else t
  | .gt => if y < x then t else f
  | .le => if y < x then f else t
/-- an array: its place and length, if its code is one of three -/
def arN (μ : AM) (w : AW) (x : Int) (c1 c2 c3 : Nat) (ks : β) (k : Nat → Nat → β) : β :=
  if 0 < x then (if (shv μ w (adr x)).1 = c1 ∨ (shv μ w (adr x)).1 = c2 ∨ (shv μ w (adr x)).1 = c3 then k (adr x) (shv μ w (adr x)).2 else ks) else ks
/-- an index within -/
def inx (i : Int) (n : Nat) (ks k : β) : β := if 0 ≤ i ∧ i < n then k else ks
def wC (w : AW) (a : Nat) (i v : Int) : AW := (w.1, w.2.1, w.2.2.1, upC w.2.2.2 a i v)
/-- one instruction: on to the next (kn), a return (kr), a call (kc), or stuck (ks) -/
def stp (μ : AM) (ri : RI) (pc : Nat) (ls : AL) (st : List AV) (w : AW) (kn : Nat → AL → List AV → AW → β) (kr : Option AV → β) (kc : Nat → List AV → List AV → β) (ks : β) : β :=
  match ri with
  | (i, a, b, v) => match i with
    | .iconst n => kn (pc + 1) ls (.inl n :: st) w
    | .bipush _ => kn (pc + 2) ls (.inl v :: st) w
    | .sipush _ => kn (pc + 3) ls (.inl v :: st) w
    | .lconst _ => kn (pc + 1) ls (.inr (.inl v) :: st) w
    | .ldc _ => kn (pc + 2) ls (tagv a v :: st) w
    | .ldc_w _ => kn (pc + 3) ls (.inl v :: st) w
    | .ldc2_w _ => kn (pc + 3) ls (.inr (.inl v) :: st) w
    | .aconst_null => kn (pc + 1) ls (.inr (.inr 0) :: st) w
    | .iload k => lI ls k ks fun x => kn (pc + 2) ls (.inl x :: st) w
    | .iload_n _ => lI ls a ks fun x => kn (pc + 1) ls (.inl x :: st) w
    | .lload k => lJ ls k ks fun x => kn (pc + 2) ls (.inr (.inl x) :: st) w
    | .lload_n _ => lJ ls a ks fun x => kn (pc + 1) ls (.inr (.inl x) :: st) w
    | .aload k => lA ls k ks fun x => kn (pc + 2) ls (.inr (.inr x) :: st) w
    | .aload_n _ => lA ls a ks fun x => kn (pc + 1) ls (.inr (.inr x) :: st) w
    | .istore k => pI st ks fun x st => if k < ls.length then kn (pc + 2) (sto1 ls k (.inl x)) st w else ks
    | .istore_n _ => pI st ks fun x st => if a < ls.length then kn (pc + 1) (sto1 ls a (.inl x)) st w else ks
    | .lstore k => pJ st ks fun x st => if k + 1 < ls.length then kn (pc + 2) (sto2 ls k (.inr (.inl x))) st w else ks
    | .lstore_n _ => pJ st ks fun x st => if a + 1 < ls.length then kn (pc + 1) (sto2 ls a (.inr (.inl x))) st w else ks
    | .astore k => pA st ks fun x st => if k < ls.length then kn (pc + 2) (sto1 ls k (.inr (.inr x))) st w else ks
    | .astore_n _ => pA st ks fun x st => if a < ls.length then kn (pc + 1) (sto1 ls a (.inr (.inr x))) st w else ks
    | .iinc k c => lI ls k ks fun x => if k < ls.length then kn (pc + 3) (sto1 ls k (.inl (w32 (x + c)))) st w else ks
    | .iadd => pII st ks fun x y st => kn (pc + 1) ls (.inl (w32 (x + y)) :: st) w
    | .isub => pII st ks fun x y st => kn (pc + 1) ls (.inl (w32 (x - y)) :: st) w
    | .imul => pII st ks fun x y st => kn (pc + 1) ls (.inl (w32 (x * y)) :: st) w
    | .idiv => pII st ks fun x y st => if y = 0 then ks else kn (pc + 1) ls (.inl (w32 (x.tdiv y)) :: st) w
    | .irem => pII st ks fun x y st => if y = 0 then ks else kn (pc + 1) ls (.inl (x.tmod y) :: st) w
    | .ineg => pI st ks fun x st => kn (pc + 1) ls (.inl (w32 (-x)) :: st) w
    | .iand => pII st ks fun x y st => kn (pc + 1) ls (.inl (i32 (fun x y => x &&& y) x y) :: st) w
    | .ior => pII st ks fun x y st => kn (pc + 1) ls (.inl (i32 (fun x y => x ||| y) x y) :: st) w
    | .ixor => pII st ks fun x y st => kn (pc + 1) ls (.inl (i32 (fun x y => x ^^^ y) x y) :: st) w
    | .ishl => pII st ks fun x y st => kn (pc + 1) ls (.inl (i32 (fun x y => x <<< (y &&& 31)) x y) :: st) w
    | .ishr => pII st ks fun x y st => kn (pc + 1) ls (.inl (i32 (fun x y => x >>> (y &&& 31)) x y) :: st) w
    | .iushr => pII st ks fun x y st => kn (pc + 1) ls (.inl (i32 (fun x y => (x.toUInt32 >>> (y.toUInt32 &&& Int32.toUInt32 31)).toInt32) x y) :: st) w
    | .ladd => pJJ st ks fun x y st => kn (pc + 1) ls (.inr (.inl (w64 (x + y))) :: st) w
    | .lsub => pJJ st ks fun x y st => kn (pc + 1) ls (.inr (.inl (w64 (x - y))) :: st) w
    | .lmul => pJJ st ks fun x y st => kn (pc + 1) ls (.inr (.inl (w64 (x * y))) :: st) w
    | .ldiv => pJJ st ks fun x y st => if y = 0 then ks else kn (pc + 1) ls (.inr (.inl (w64 (x.tdiv y))) :: st) w
    | .lrem => pJJ st ks fun x y st => if y = 0 then ks else kn (pc + 1) ls (.inr (.inl (x.tmod y)) :: st) w
    | .land => pJJ st ks fun x y st => kn (pc + 1) ls (.inr (.inl (i64 (fun x y => x &&& y) x y)) :: st) w
    | .lor => pJJ st ks fun x y st => kn (pc + 1) ls (.inr (.inl (i64 (fun x y => x ||| y) x y)) :: st) w
    | .lxor => pJJ st ks fun x y st => kn (pc + 1) ls (.inr (.inl (i64 (fun x y => x ^^^ y) x y)) :: st) w
    | .lshl => pI st ks fun y st => pJ st ks fun x st => kn (pc + 1) ls (.inr (.inl (Int64.ofInt x <<< ((Int32.ofInt y).toInt64 &&& 63)).toInt) :: st) w
    | .lshr => pI st ks fun y st => pJ st ks fun x st => kn (pc + 1) ls (.inr (.inl (Int64.ofInt x >>> ((Int32.ofInt y).toInt64 &&& 63)).toInt) :: st) w
    | .lcmp => pJJ st ks fun x y st => kn (pc + 1) ls (.inl (if x < y then -1 else if x = y then 0 else 1) :: st) w
    | .i2l => pI st ks fun x st => kn (pc + 1) ls (.inr (.inl x) :: st) w
    | .l2i => pJ st ks fun x st => kn (pc + 1) ls (.inl (w32 x) :: st) w
    | .i2b => pI st ks fun x st => kn (pc + 1) ls (.inl (x.bmod 256) :: st) w
    | .i2c => pI st ks fun x st => kn (pc + 1) ls (.inl (x % 65536) :: st) w
    | .dup => pV st ks fun v st => if acat v = 1 then kn (pc + 1) ls (v :: v :: st) w else ks
    | .pop => pV st ks fun v st => if acat v = 1 then kn (pc + 1) ls st w else ks
    | .dup2 => pV st ks fun u st => pV st ks fun v st => if acat u = 1 ∧ acat v = 1 then kn (pc + 1) ls (u :: v :: u :: v :: st) w else ks
    | .goto _ => kn a ls st w
    | .ifCond c _ => pI st ks fun x st => cnd c x 0 (kn a ls st w) (kn (pc + 3) ls st w)
    | .if_icmp c _ => pII st ks fun x y st => cnd c x y (kn a ls st w) (kn (pc + 3) ls st w)
    | .ifnull _ => pA st ks fun x st => if x = 0 then kn a ls st w else (if 0 < x then kn (pc + 3) ls st w else ks)
    | .ifnonnull _ => pA st ks fun x st => if x = 0 then kn (pc + 3) ls st w else (if 0 < x then kn a ls st w else ks)
    | .tableswitch d lo _ offs => pI st ks fun x st => swi x pc d (fun q => kn q ls st w) offs.toList lo
    | .lookupswitch d ps => pI st ks fun x st => swl x pc d (fun q => kn q ls st w) ps.toList
    | .getfield _ => pA st ks fun x st => if 0 < x then (if (shv μ w (adr x)).1 = a then kn (pc + 3) ls (tagv v (cv μ w (adr x) b) :: st) w else ks) else ks
    | .putfield _ => pV st ks fun y st => pA st ks fun x st => if 0 < x then (if (shv μ w (adr x)).1 = a then (if avok v y = true then (if adr x < μ.1 ∧ ¬ μ.2.2 (adr x) b = 0 then ks else kn (pc + 3) ls st (wC w (adr x) b (aval y))) else ks) else ks) else ks
    | .getstatic _ => kn (pc + 3) ls (tagv a v :: st) w
    | .iaload => pI st ks fun i st => pA st ks fun x st => arN μ w x 100 110 110 ks fun a n => inx i n ks (kn (pc + 1) ls (.inl (w.2.2.2 a i) :: st) w)
    | .laload => pI st ks fun i st => pA st ks fun x st => arN μ w x 101 101 101 ks fun a n => inx i n ks (kn (pc + 1) ls (.inr (.inl (w.2.2.2 a i)) :: st) w)
    | .baload => pI st ks fun i st => pA st ks fun x st => arN μ w x 102 103 112 ks fun a n => inx i n ks (kn (pc + 1) ls (.inl (w.2.2.2 a i) :: st) w)
    | .aaload => pI st ks fun i st => pA st ks fun x st => arN μ w x 104 104 104 ks fun a n => inx i n ks (kn (pc + 1) ls (.inr (.inr (w.2.2.2 a i)) :: st) w)
    | .iastore => pI st ks fun y st => pI st ks fun i st => pA st ks fun x st => arN μ w x 100 100 100 ks fun a n => inx i n ks (kn (pc + 1) ls st (wC w a i y))
    | .lastore => pJ st ks fun y st => pI st ks fun i st => pA st ks fun x st => arN μ w x 101 101 101 ks fun a n => inx i n ks (kn (pc + 1) ls st (wC w a i y))
    | .bastore => pI st ks fun y st => pI st ks fun i st => pA st ks fun x st => arN μ w x 102 103 103 ks fun a n => inx i n ks (if (shv μ w a).1 = 102 then (if -128 ≤ y ∧ y < 128 then kn (pc + 1) ls st (wC w a i y) else ks) else (if y = 0 ∨ y = 1 then kn (pc + 1) ls st (wC w a i y) else ks))
    | .aastore => pA st ks fun y st => pI st ks fun i st => pA st ks fun x st => arN μ w x 104 104 104 ks fun a n => inx i n ks (if 0 < y ∧ (shv μ w (adr y)).1 = b then kn (pc + 1) ls st (wC w a i y) else ks)
    | .arraylength => pA st ks fun x st => if 0 < x then (if 100 ≤ (shv μ w (adr x)).1 ∧ (shv μ w (adr x)).1 ≤ 112 then kn (pc + 1) ls (.inl (shv μ w (adr x)).2 :: st) w else ks) else ks
    | .new _ => kn (pc + 3) ls (.inr (.inr (w.1 + 1)) :: st) (alloc w a b)
    | .newarray _ => pI st ks fun n st => if 0 ≤ n ∧ n ≤ 1000000 then kn (pc + 2) ls (.inr (.inr (w.1 + 1)) :: st) (alloc w a n.toNat) else ks
    | .anewarray _ => pI st ks fun n st => if 0 ≤ n ∧ n ≤ 1000000 then kn (pc + 3) ls (.inr (.inr (w.1 + 1)) :: st) (alloc w 104 n.toNat) else ks
    | .ireturn => pI st ks fun x st => if st = [] then (if rok a x = true then kr (some (.inl x)) else ks) else ks
    | .lreturn => pJ st ks fun x st => if st = [] then kr (some (.inr (.inl x))) else ks
    | .return_ => if st = [] then kr none else ks
    | .invokespecial _ => if a = 9999 then (pA st ks fun x st => if 0 < x ∧ asum st ≤ 8 then kn (pc + 3) ls st w else ks) else (if b ≤ st.length ∧ asum (st.drop b) ≤ 8 then (pA (st.take b).reverse ks fun x l => if 0 < x then kc a (.inr (.inr x) :: l) (st.drop b) else ks) else ks)
    | .invokestatic _ => if a = 9998 then (pI st ks fun n st => pI st ks fun tp st => pA st ks fun t st => pI st ks fun sp st => pA st ks fun s st =>
          arN μ w s 100 100 100 ks fun s ns => arN μ w t 100 100 100 ks fun t nt => if s ≠ t ∧ 0 ≤ n ∧ 0 ≤ sp ∧ 0 ≤ tp ∧ sp + n ≤ ns ∧ tp + n ≤ nt ∧ asum st ≤ 8 then kn (pc + 3) ls st (w.1, w.2.1, w.2.2.1, cpC w.2.2.2 s sp t tp n) else ks)
        else (if b ≤ st.length ∧ asum (st.drop b) ≤ 8 then kc a (st.take b).reverse (st.drop b) else ks)
    | .invokevirtual _ => if b ≤ st.length ∧ asum (st.drop b) ≤ 8 then (pA (st.take b).reverse ks fun x l => if 0 < x then (if (shv μ w (adr x)).1 = v.toNat then kc a (.inr (.inr x) :: l) (st.drop b) else ks) else ks) else ks
    | _ => ks
end Stp

/-! what is done behind a step may be done in its branches -/
section Nat1
variable {β γ : Type} (f : β → γ)
theorem n_pI (st : List AV) (ks : β) (k : Int → List AV → β) : f (pI st ks k) = pI st (f ks) (fun x st => f (k x st)) := by unfold pI; split <;> rfl
theorem n_pII (st : List AV) (ks : β) (k : Int → Int → List AV → β) : f (pII st ks k) = pII st (f ks) (fun x y st => f (k x y st)) := by unfold pII; split <;> rfl
theorem n_pJ (st : List AV) (ks : β) (k : Int → List AV → β) : f (pJ st ks k) = pJ st (f ks) (fun x st => f (k x st)) := by unfold pJ; split <;> rfl
theorem n_pJJ (st : List AV) (ks : β) (k : Int → Int → List AV → β) : f (pJJ st ks k) = pJJ st (f ks) (fun x y st => f (k x y st)) := by unfold pJJ; split <;> rfl
theorem n_pA (st : List AV) (ks : β) (k : Int → List AV → β) : f (pA st ks k) = pA st (f ks) (fun x st => f (k x st)) := by unfold pA; split <;> rfl
theorem n_pV (st : List AV) (ks : β) (k : AV → List AV → β) : f (pV st ks k) = pV st (f ks) (fun x st => f (k x st)) := by unfold pV; split <;> rfl
theorem n_lI (ls : AL) (n : Nat) (ks : β) (k : Int → β) : f (lI ls n ks k) = lI ls n (f ks) (fun x => f (k x)) := by unfold lI; split <;> rfl
theorem n_lJ (ls : AL) (n : Nat) (ks : β) (k : Int → β) : f (lJ ls n ks k) = lJ ls n (f ks) (fun x => f (k x)) := by unfold lJ; split <;> rfl
theorem n_lA (ls : AL) (n : Nat) (ks : β) (k : Int → β) : f (lA ls n ks k) = lA ls n (f ks) (fun x => f (k x)) := by unfold lA; split <;> rfl
theorem n_if (c : Prop) [Decidable c] (a b : β) : f (if c then a else b) = if c then f a else f b := by split <;> rfl
theorem n_cnd (c : ClassFile.Cond) (x y : Int) (a b : β) : f (cnd c x y a b) = cnd c x y (f a) (f b) := by cases c <;> simp only [cnd, n_if f]
theorem n_arN (μ : AM) (w : AW) (x : Int) (c1 c2 c3 : Nat) (ks : β) (k : Nat → Nat → β) : f (arN μ w x c1 c2 c3 ks k) = arN μ w x c1 c2 c3 (f ks) (fun a n => f (k a n)) := by simp only [arN, n_if f]
theorem n_inx (i : Int) (n : Nat) (ks k : β) : f (inx i n ks k) = inx i n (f ks) (f k) := by simp only [inx, n_if f]
theorem n_swi (x : Int) (pc : Nat) (d : Int) (k : Nat → β) (os : List Int) (lo : Int) : f (swi x pc d k os lo) = swi x pc d (fun q => f (k q)) os lo := by
  induction os generalizing lo with
  | nil => rfl
  | cons o os ih => simp only [swi, n_if f, ih]
theorem n_swl (x : Int) (pc : Nat) (d : Int) (k : Nat → β) (os : List (Int × Int)) : f (swl x pc d k os) = swl x pc d (fun q => f (k q)) os := by
  induction os with
  | nil => rfl
  | cons o os ih => simp only [swl, n_if f, ih]
theorem n_stp (μ : AM) (ri : RI) (pc : Nat) (ls : AL) (st : List AV) (w : AW) (kn : Nat → AL → List AV → AW → β) (kr : Option AV → β) (kc : Nat → List AV → List AV → β) (ks : β) :
    f (stp μ ri pc ls st w kn kr kc ks) = stp μ ri pc ls st w (fun a b c d => f (kn a b c d)) (fun a => f (kr a)) (fun a b c => f (kc a b c)) (f ks) := by
  obtain ⟨i, a, b, v⟩ := ri
  cases i <;> simp only [stp, n_pI f, n_pII f, n_pJ f, n_pJJ f, n_pA f, n_pV f, n_lI f, n_lJ f, n_lA f, n_if f, n_cnd f, n_arN f, n_inx f, n_swi f, n_swl f]
end Nat1
abbrev Out : Type := (Nat × AL × List AV × AW) ⊕ (Option AV ⊕ (Nat × List AV × List AV))
def stpO (μ : AM) (ri : RI) (pc : Nat) (ls : AL) (st : List AV) (w : AW) : Option Out := stp μ ri pc ls st w (fun a b c d => some (.inl (a, b, c, d))) (fun r => some (.inr (.inl r))) (fun m a r => some (.inr (.inr (m, a, r)))) none
theorem stp_eq {β : Type} (μ : AM) (ri : RI) (pc : Nat) (ls : AL) (st : List AV) (w : AW) (kn : Nat → AL → List AV → AW → β) (kr : Option AV → β) (kc : Nat → List AV → List AV → β) (ks : β) :
    stp μ ri pc ls st w kn kr kc ks = match stpO μ ri pc ls st w with
      | none => ks
      | some (.inl (a, b, c, d)) => kn a b c d
      | some (.inr (.inl r)) => kr r
      | some (.inr (.inr (m, a, r))) => kc m a r := by
  unfold stpO
  exact (n_stp (fun o : Option Out => (match o with
      | none => ks
      | some (.inl (a, b, c, d)) => kn a b c d
      | some (.inr (.inl r)) => kr r
      | some (.inr (.inr (m, a, r))) => kc m a r : β)) μ ri pc ls st w (fun a b c d => some (.inl (a, b, c, d))) (fun r => some (.inr (.inl r))) (fun m a r => some (.inr (.inr (m, a, r)))) none).symm
