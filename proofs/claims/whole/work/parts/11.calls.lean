theorem KF.to {sx : Nat → String × Nat × String} {G : GE} {s U : State} (h : KF sx G s) (hW : s.WarmedH U.vm) (hq : ∀ a : Nat, a < s.heap.size → ¬ gA G a → U.heap[a]? = s.heap[a]?) : KF sx G U :=
  ⟨fun c hc => u_Kn_moved hW.alike (h.1 c hc), fun k hk => (h.2.1 k hk).warm hW, (h.2.2.1.moved hW.alike).kept hq, (h.2.2.2.1.moved hW.alike).kept hq, ⟨h.2.2.2.2.1.1.moved hW.alike, (h.2.2.2.2.1.2.1.moved hW.alike).kept hq, (h.2.2.2.2.1.2.2.1.moved hW.alike).kept hq, xw_warm hW h.2.2.2.2.1.2.2.2⟩, fun q hq => (h.2.2.2.2.2 q hq).warmM hW⟩
def PcT (sx : Nat → String × Nat × String) (G : GE) (μ : AM) (args : List AV) (w : AW) : Array Value → State → Prop := fun v U => v = (args.map (gv G)).toArray ∧ KF sx G U ∧ HR G μ U w U.heap
def okr (r : Option AV) : Prop := ∀ v, r = some v → okv v
def QcT (G : GE) (μ : AM) (r : Option AV) (w : AW) : Array Value → State → Outcome → State → Prop := fun _ st o t => o = .returned (r.map (gv G)) ∧ okr r ∧ HR G μ t w t.heap ∧ st.heap.size ≤ t.heap.size ∧ ∀ q : Nat, q < st.heap.size → ¬ gA G q → t.heap[q]? = st.heap[q]?
def rmN (d mc ms : Nat) : Room := { frames := d + 1, cells := mc, slots := ms, locals := 60 * d + 300 }
/-- what holds of a method's name, code and result -/
abbrev MN : Type := Nat → MethodName × ByteArray × Option FieldType
def wsN (P : PG) (Y : MN) (m : Nat) : List Cond := .code (Y m).1 (Y m).2.1 (P.1 m).1 (Y m).2.2 :: WS
def Mt (sx : Nat → String × Nat × String) (G : GE) (P : PG) (Y : MN) (μ : AM) (l : Launch) (d m : Nat) (args : List AV) (w : AW) (r : Option AV) (w' : AW) : Prop :=
  Met l (Y m).1 (wsN P Y m) (rmN d (w'.1 - w.1) (w'.2.1 - w.2.1)) (PcT sx G μ args w) (QcT G μ r w') (w'.1 - w.1) (w'.2.1 - w.2.1) (gA G)
theorem PcT.blind {sx : Nat → String × Nat × String} {G : GE} {μ : AM} {args : List AV} {w : AW} : FrameBlind (PcT sx G μ args w) := by
  intro a U g mq h
  refine ⟨h.1, ?_, h.2.2.moved (u := U) (U := U.calling g mq a) (Vm.Alike.refl U.vm)⟩
  obtain ⟨h1, h2, h3, h4, h5, h6⟩ := h.2.1
  exact ⟨fun c hc => u_Kn_moved (u := U) (U := U.calling g mq a) (Vm.Alike.refl U.vm) (h1 c hc), fun k hk => (h2 k hk).same rfl, h3.moved (u := U) (U := U.calling g mq a) (Vm.Alike.refl U.vm), h4.moved (u := U) (U := U.calling g mq a) (Vm.Alike.refl U.vm), ⟨h5.1.moved (u := U) (U := U.calling g mq a) (Vm.Alike.refl U.vm), h5.2.1.moved (u := U) (U := U.calling g mq a) (Vm.Alike.refl U.vm), h5.2.2.1.moved (u := U) (U := U.calling g mq a) (Vm.Alike.refl U.vm), fun w hw => va_Nw.same (xw_on w hw) rfl (h5.2.2.2 w hw)⟩, fun q hq => (h6 q hq).same rfl rfl⟩
/-- behind a call -/
theorem call_back {G : GE} {μ : AM} {p : Program} {l : Launch} {e : Env} {R : Room} {s : State} {mI : MethodId} {args : Array Value} {below : List Frame} {meth : Method} {c : Code} {Q : State → Prop} {H : Heap} {locs : List Loc} {cells slots mc ms pc : Nat} {lsC : Array Slot} {st0 rest : List Value} {r : Option AV} {w1 : AW} {a : Array Value}
    (hr : va_Run p l e R s mI args below meth c H locs cells slots mc ms (F0 mI pc lsC st0) rest (QcT G μ r w1 a) (gA G)) (hS : va_S (gA G) s.heap H locs)
    (k : ∀ (H' : Heap) (locs' : List Loc), okr r → HR G μ s w1 H' → va_S (gA G) s.heap H' locs' → W p l e R s mI args below meth c H' locs' (cells + mc) (slots + ms) Q (F0 mI (pc + 3) lsC ((r.map (gv G)).toList ++ rest))) : W p l e R s mI args below meth c H locs cells slots Q (F0 mI pc lsC st0) := by
  intro T hT X
  obtain ⟨v, st₀, t, T', L, h0, X', hL, e1, e2, ⟨hv, ho, hh, hz, hk⟩, st⟩ := hr T hT X
  cases hv
  rw [h0] at hz hk
  have hal : s.vm.Alike t.vm := by rw [← e2]; exact X'.warmed.alike
  obtain ⟨t2, a1, b1⟩ := k T'.heap (locs ++ L) ho (by rw [e1]; exact hh.moved hal.symm)
    ⟨Nat.le_trans hS.1 (by rw [e1]; exact hz), fun q h1 h2 => by rw [e1, hk q (Nat.lt_of_lt_of_le h1 hS.1) h2]; exact hS.2.1 q h1 h2, fun q hq => by
      rcases List.mem_append.mp hq with h | h
      · exact hS.2.2 q h
      · exact hL q h⟩ T' rfl X'
  exact ⟨t2, st t2 a1, b1⟩
/-- a call's links -/
def CLok (P : PG) (Y : MN) (own : String) (ri : RI) : Prop := match ri with
  | (i, a, b, v) => match i with
    | .invokevirtual idx => Cond.methodLink own idx (Y a).1 ∈ WS ∧ Cond.instanceMethod (Y a).1 ∈ WS ∧ Cond.selects (Y a).1.cls (Y a).1 (Y a).1 ∈ WS ∧ Cond.initialized (Y a).1.cls ∈ WS ∧ Cond.code (Y a).1 (Y a).2.1 (P.1 a).1 (Y a).2.2 ∈ WS ∧ ((v.toNat < 13 ∧ (Y a).1.cls = cN v.toNat) ∨ (v.toNat = 60 ∧ (Y a).1.cls = "java/lang/String")) ∧ plainFor (Y a).1 = true ∧ (P.1 a).1 ≤ 41 ∧ (Y a).1.name ≠ "<init>" ∧ (Y a).1.cls ≠ "java/lang/invoke/MethodHandle" ∧ (Y a).1.cls ≠ "java/lang/invoke/VarHandle" ∧ (parseMethodDescriptor (Y a).1.desc).map (fun d => d.parameters.length) = some (b - 1)
    | .invokestatic idx => a = 9998 ∨ a = 9997 ∨ ((Cond.methodLink own idx (Y a).1 ∈ WS ∨ (own, idx, (Y a).1) ∈ nestL) ∧ Cond.static (Y a).1 ∈ WS ∧ Cond.initialized (Y a).1.cls ∈ WS ∧ Cond.code (Y a).1 (Y a).2.1 (P.1 a).1 (Y a).2.2 ∈ WS ∧ plainFor (Y a).1 = true ∧ (P.1 a).1 ≤ 41 ∧ (Y a).1.name ≠ "<init>" ∧ (Y a).1.cls ≠ "java/lang/invoke/MethodHandle" ∧ (Y a).1.cls ≠ "java/lang/invoke/VarHandle" ∧ (parseMethodDescriptor (Y a).1.desc).map (fun d => d.parameters.length) = some b)
    | .invokespecial idx => a = 9999 ∨ ((Cond.methodLink own idx (Y a).1 ∈ WS ∨ (own, idx, (Y a).1) ∈ nestL) ∧ (Y a).1.name = "<init>" ∧ Cond.instanceMethod (Y a).1 ∈ WS ∧ Cond.initialized (Y a).1.cls ∈ WS ∧ Cond.code (Y a).1 (Y a).2.1 (P.1 a).1 (Y a).2.2 ∈ WS ∧ (Y a).2.2 = none ∧ plainFor (Y a).1 = true ∧ (P.1 a).1 ≤ 41 ∧ (Y a).1.cls ≠ "java/lang/invoke/MethodHandle" ∧ (Y a).1.cls ≠ "java/lang/invoke/VarHandle" ∧ (parseMethodDescriptor (Y a).1.desc).map (fun d => d.parameters.length) = some (b - 1))
    | _ => True
theorem good_ws {P : PG} {Y : MN} {m : Nat} (h : Cond.code (Y m).1 (Y m).2.1 (P.1 m).1 (Y m).2.2 ∈ WS) : GoodIn WS (wsN P Y m) := by
  intro w hw
  rcases List.mem_cons.mp hw with q | q
  · rw [q]; exact WS_good _ h
  · exact WS_good _ q
