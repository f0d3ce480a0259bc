/-! THE LAW'S OWN 'voice': EchoTune.voice is called; what it throws is caught. -/
section Vox
variable {G : GE} {μ : AM} {l : Launch}
theorem w_step {sx : Nat → String × Nat × String} {own : String} {cc : ByteArray} {nL : Nat} {init : Bool} {ret : Option FieldType} {p : Program} {e : Env} {R : Room} {s : State} {mI : MethodId} {args : Array Value} {below : List Frame} {meth : Method} {c : Code} {Q : State → Prop}
    (C : Cx sx G own cc nL p s mI args meth c) (hin : init = true → meth.name = "<init>") (hR1 : 1 ≤ R.frames) (hR2 : 200 ≤ R.locals) {pc : Nat} {ri : RI} {ls : AL} {st : List AV} {w : AW} {H : Heap} {locs : List Loc} {cells slots : Nat} {lsC : Array Slot}
    (ok : RIok sx own init ret cc pc ri) (I : Inv G μ s nL w H locs ls lsC st) {pc' : Nat} {ls' : AL} {st' : List AV} {w' : AW} (h : stpO μ ri pc ls st w = some (.inl (pc', ls', st', w')))
    (room : cells + w'.1 ≤ R.cells + w.1 ∧ slots + w'.2.1 ≤ R.slots + w.2.1)
    (k : ∀ (H' : Heap) (locs' : List Loc) (cells' slots' : Nat) (lsC' : Array Slot), Inv G μ s nL w' H' locs' ls' lsC' st' → cells' + w.1 = cells + w'.1 → slots' + w.2.1 = slots + w'.2.1 → W p l e R s mI args below meth c H' locs' cells' slots' Q (F0 mI pc' lsC' (st'.map (gv G)))) :
    W p l e R s mI args below meth c H locs cells slots Q (F0 mI pc lsC (st.map (gv G))) := by
  have hN : nativeFrameWords "java/lang/System" "arraycopy" 5 ≤ 100 := by decide
  refine step_sound C hin hR1 (by omega) (by omega) ok I (KN := fun a b c e => a = pc' ∧ b = ls' ∧ c = st' ∧ e = w') (KR := fun _ => False) (KC := fun _ _ _ => False) ?_ ?_ ?_ (fun _ q => q.elim) (fun _ _ _ q => q.elim)
  · rw [stp_eq, h]; exact ⟨rfl, rfl, rfl, rfl⟩
  · rintro _ _ _ _ ⟨rfl, rfl, rfl, rfl⟩; exact room
  · rintro _ _ _ _ H' locs' cells' slots' lsC' ⟨rfl, rfl, rfl, rfl⟩ I' e1 e2; exact k _ _ _ _ _ I' e1 e2
theorem w_st {sx : Nat → String × Nat × String} {own : String} {cc : ByteArray} {nL : Nat} {init : Bool} {ret : Option FieldType} {p : Program} {e : Env} {R : Room} {s : State} {mI : MethodId} {args : Array Value} {below : List Frame} {meth : Method} {c : Code} {Q : State → Prop}
    (C : Cx sx G own cc nL p s mI args meth c) (hin : init = true → meth.name = "<init>") (hR1 : 1 ≤ R.frames) (hR2 : 200 ≤ R.locals) {cells slots : Nat} (hc : cells ≤ R.cells) (hs : slots ≤ R.slots) {pc : Nat} {ri : RI} {ls : AL} {st : List AV} {w : AW} {H : Heap} {locs : List Loc} {lsC : Array Slot}
    (ok : RIok sx own init ret cc pc ri) (I : Inv G μ s nL w H locs ls lsC st) {pc' : Nat} {ls' : AL} {st' : List AV} (h : stpO μ ri pc ls st w = some (.inl (pc', ls', st', w)))
    (k : ∀ (H' : Heap) (locs' : List Loc) (lsC' : Array Slot), Inv G μ s nL w H' locs' ls' lsC' st' → W p l e R s mI args below meth c H' locs' cells slots Q (F0 mI pc' lsC' (st'.map (gv G)))) :
    W p l e R s mI args below meth c H locs cells slots Q (F0 mI pc lsC (st.map (gv G))) := by
  refine w_step C hin hR1 hR2 ok I h ⟨by omega, by omega⟩ (fun H' locs' cells' slots' lsC' I' e1 e2 => ?_)
  obtain rfl : cells' = cells := by omega
  obtain rfl : slots' = slots := by omega
  exact k _ _ _ I'
theorem cw_of {P : PG} {Y : MN} {R : Room} {s : State} {args : Array Value} {own : String} {k mq b0 d mc ms : Nat} {v0 : Int} (cl : CLok P Y own (.invokevirtual k, mq, b0, v0)) (hts : ∀ w ∈ WS, w.before args s = true) (hR1 : d + 1 + 1 ≤ R.frames) (hR2 : 60 * (d + 1) + 300 ≤ R.locals) :
    CallW R s args own (Y mq).1.cls k (Y mq).1 (Y mq).2.1 (P.1 mq).1 (Y mq).2.2 (wsN P Y mq) (rmN d mc ms) mc ms (b0 - 1) := by
  obtain ⟨c1, c2, c3, c4, c5, c6, c7, c8, c9, c10, c11, c12⟩ := cl
  refine cwV _ hts ?_ rfl rfl rfl ⟨rfl, c10, c11, c12⟩ ⟨(rmN_ok hR1 c8 hR2).1, (rmN_ok (mc := 0) (ms := 0) hR1 c8 hR2).2⟩
  intro w hw
  rcases List.mem_append.mp hw with q | q
  · simp only [List.mem_cons, List.not_mem_nil, or_false] at q
    rcases q with q | q | q | q <;> rw [q] <;> exact WS_good _ (by assumption)
  · exact good_ws c5 w q
theorem pre_virt {sx : Nat → String × Nat × String} {s : State} {w : AW} {H : Heap} {locs : List Loc} {x : Int} {l' : List AV} {C : String} {k : Nat} (hK : KF sx G s) (hH : HR G μ s w H) (hS : va_S (gA G) s.heap H locs) (e4 : 0 < x) (e5 : (shv μ w (adr x)).1 = k) (hC : (k < 13 ∧ C = cN k) ∨ (k = 60 ∧ C = "java/lang/String")) :
    PreV s H C (gad G (adr x)) (PcT sx G μ (.inr (.inr x) :: l') w) (l'.map (gv G)) :=
  ⟨PcT.blind, recv_ok hK hH e5 hC, fun U hU hW => ⟨by rw [List.map_cons, gv_a G e4], hK.to hW (fun q h1 h2 => by rw [hU]; exact hS.2.1 q h1 h2), by rw [hU]; exact hH.moved hW.alike⟩⟩
theorem call_virt {sx : Nat → String × Nat × String} {P : PG} {Y : MN} {n : Nat} (ih : RunS sx G P Y μ l n) {own : String} {cc : ByteArray} {nL : Nat} {p : Program} {e : Env} {R : Room} {s : State} {mI : MethodId} {args : Array Value} {below : List Frame} {meth : Method} {c : Code} {H : Heap} {locs : List Loc} {cells slots : Nat} {lsC : Array Slot} {ls : AL} {Q : State → Prop} {pc k mq b0 : Nat} {v0 : Int} {x : Int} {l' rest : List AV} {d : Nat} {w w1 : AW} {r1 : Option AV}
    (C : Cx sx G own cc nL p s mI args meth c) (hd : decode cc pc = .ok (.invokevirtual k, 3)) (cl : CLok P Y own (.invokevirtual k, mq, b0, v0)) (I : Inv G μ s nL w H locs ls lsC ((.inr (.inr x) :: l').reverse ++ rest)) (e4 : 0 < x) (e5 : (shv μ w (adr x)).1 = v0.toNat) (s3 : l'.length = b0 - 1) (s2 : asum rest ≤ 8)
    (hv : ex P μ n d mq 0 (ent (P.1 mq).1 (.inr (.inr x) :: l')) [] w = some (r1, w1)) (ha : asum (.inr (.inr x) :: l') ≤ (P.1 mq).1) (hR1 : d + 1 + 1 ≤ R.frames) (hR2 : 60 * (d + 1) + 300 ≤ R.locals) (hfit : cells + (w1.1 - w.1) ≤ R.cells ∧ slots + (w1.2.1 - w.2.1) ≤ R.slots)
    (go : ∀ (H' : Heap) (locs' : List Loc), okr r1 → HR G μ s w1 H' → va_S (gA G) s.heap H' locs' → W p l e R s mI args below meth c H' locs' (cells + (w1.1 - w.1)) (slots + (w1.2.1 - w.2.1)) Q (F0 mI (pc + 3) lsC ((r1.map (gv G)).toList ++ rest.map (gv G)))) :
    W p l e R s mI args below meth c H locs cells slots Q (F0 mI pc lsC (((.inr (.inr x) :: l').reverse ++ rest).map (gv G))) := by
  obtain ⟨hx, hb, hml, hown, hts, hlocks, hK⟩ := C
  have hst := I.2.2.2
  have oka : ∀ v ∈ (.inr (.inr x) :: l' : List AV), okv v := fun v q => hst v (List.mem_append_left _ (List.mem_reverse.mpr q))
  have hM := mt_of ih hv cl.2.2.2.2.2.2.1 ha oka
  have hsz : (F0 mI pc lsC (((.inr (.inr x) :: l').reverse ++ rest).map (gv G))).locals.size = nL := I.2.2.1.1
  have hrs : 2 * (F0 mI pc lsC (((.inr (.inr x) :: l').reverse ++ rest).map (gv G))).monitorRoom + ((rest.map (gv G)).map fun v => v.category).sum ≤ 8 := lv_room (by rw [gv_sum]; exact s2)
  refine call_back (a := (Value.ref (gad G (adr x)) :: l'.map (gv G)).toArray) (rest := rest.map (gv G)) (va_runV (As := l'.map (gv G)) (b := gad G (adr x)) (C := (Y mq).1.cls) (bytes := (Y mq).2.1) (maxL := (P.1 mq).1) (ret := (Y mq).2.2) (n := b0 - 1) ⟨hx, hb, hml, hown, hts⟩ hM (cw_of cl hts hR1 hR2) (pre_virt hK I.1 I.2.1 e4 e5 cl.2.2.2.2.2.1) rfl (by rw [List.length_map]; exact s3) hsz ?_ hrs hd hfit) I.2.1 go
  show (List.map (gv G) ((Sum.inr (Sum.inr x) :: l').reverse ++ rest)) = _
  simp [gv_a G e4]
/-- the words of the throw -/
theorem xw_of {sx : Nat → String × Nat × String} {s : State} (hK : KF sx G s) {args : Array Value} : ∀ w ∈ xwL, w.before args s = true := fun w hw => va_Nw.use (xw_on w hw) (hK.2.2.2.2.1.2.2.2 w hw)
def nsN : List String := ["java/lang/RuntimeException", "java/lang/Exception"]
def vxIx : List Nat := [22, 23, 24, 25, 32, 33] ++ (List.range 69).map (1355 + ·) ++ [1988, 2002, 2003]
set_option maxRecDepth 100000 in
theorem vx_in : ∀ w ∈ vx_at0 "EchoTune" 160 nsE nsN, (w ∈ xwL ∨ w ∈ WS) ∧ vx_ot w = true := by
  have h : (vx_at0 "EchoTune" 160 nsE nsN).all (fun w => vx_ot w && (decide (w ∈ xwL) || (goodWord w && vxIx.any (fun i => decide (tables_1[i]? = some w))))) = true := by decide +kernel
  intro w hw
  have h1 := List.all_eq_true.mp h w hw
  simp only [Bool.and_eq_true, Bool.or_eq_true, List.any_eq_true, decide_eq_true_eq] at h1
  obtain ⟨o, g | ⟨g, i, -, e⟩⟩ := h1
  · exact ⟨Or.inl g, o⟩
  · exact ⟨Or.inr (in_ws e g), o⟩
set_option maxRecDepth 100000 in
theorem vx_wk : Cond.classLink "EchoTune" 158 nsE ∈ WS ∧ goodWord (Cond.classLink "EchoTune" 158 nsE) = true ∧ Cond.initialized nsE ∈ WS ∧ goodWord (Cond.initialized nsE) = true := ⟨in_ws (i := 1363) (by decide +kernel) (by decide +kernel), by decide +kernel, in_ws (i := 25) (by decide +kernel) (by decide +kernel), by decide +kernel⟩
def vS : Int := -1000000
def evQ (G : GE) (μ : AM) (v : Int) (w1 : AW) : Array Value → State → Outcome → State → Prop := fun a st o t => v ≠ vS ∧ QcT G μ (some (.inl v)) w1 a st o t
def evX (G : GE) (μ : AM) (v : Int) (w1 : AW) : String → State → State → Prop := fun E st t => v = vS ∧ E = nsE ∧ HR G μ t (alloc w1 98 6) t.heap ∧ st.heap.size ≤ t.heap.size ∧ ∀ q : Nat, q < st.heap.size → ¬ gA G q → t.heap[q]? = st.heap[q]?
def evW (v : Int) (w1 : AW) : AW := if v = vS then alloc w1 98 6 else w1
theorem HR.junk {U : State} {w : AW} {H H' : Heap} {n : Nat} (h : HR G μ U w H) (hz : H'.size = H.size + 1) (hH : ∀ q, q < H.size → H'[q]? = H[q]?) : HR G μ U (alloc w 98 n) H' := by
  have e : shv μ (alloc w 98 n) w.1 = (98, n) := by
    have := h.2.2.1
    unfold shv
    rw [if_neg (by omega)]
    show upS w.2.2.1 w.1 (98, n) w.1 = _
    simp [upS]
  refine h.more hz hH ⟨fun q => ?_, fun q => ?_, fun q => ?_⟩ <;> rw [e] at q <;> omega
set_option maxRecDepth 100000 in
set_option maxHeartbeats 1000000 in
theorem ev_met (hl : l.stackTraces = false) {n : Nat} (hR : RunS sx0 G P0 Y0 μ l n) {d : Nat} {x a b v : Int} {w w1 : AW} (hx : 0 < x) (hs : (shv μ w (adr x)).1 = 0) (hy : 0 < cv μ w (adr x) 1) (hs2 : (shv μ w (adr (cv μ w (adr x) 1))).1 = 2)
    (hv : ex P0 μ n d 83 0 (ent (P0.1 83).1 [.inr (.inr (cv μ w (adr x) 1)), .inl a, .inl b]) [] w = some (some (.inl v), w1)) (ok : ∀ u ∈ ([.inr (.inr x), .inl a, .inl b] : List AV), okv u) :
    vx_Met l (Y0 26).1 (wsN P0 Y0 26) (rmN (d + 6) ((evW v w1).1 - w.1) ((evW v w1).2.1 - w.2.1)) (PcT sx0 G μ [.inr (.inr x), .inl a, .inl b] w) (evQ G μ v w1) (evX G μ v w1) ((evW v w1).1 - w.1) ((evW v w1).2.1 - w.2.1) (gA G) := by
  refine vx_ofW (cc := (Y0 26).2.1) (maxL := (P0.1 26).1) (ret := (Y0 26).2.2) (by decide) rfl ?_
  intro p e s mI args below meth c s₁ B hml htab hP
  obtain ⟨rfl, hK, hH⟩ := hP
  have hts := atoms_spec (ws := wsN P0 Y0 26) B.pre
  have hg := ex_grow n hv
  have hge : w1.1 ≤ (evW v w1).1 ∧ w1.2.1 ≤ (evW v w1).2.1 := by
    unfold evW
    split
    · exact ⟨Nat.le_succ _, Nat.le_add_right _ _⟩
    · exact ⟨Nat.le_refl _, Nat.le_refl _⟩
  rw [lg_entry_eq]
  have I : Inv G μ s (P0.1 26).1 w s.heap [] [some (.inr (.inr x)), some (.inl a), some (.inl b), none] ((lg_sl (([.inr (.inr x), .inl a, .inl b] : List AV).map (gv G)) ++ List.replicate ((P0.1 26).1 - (lg_sl (([.inr (.inr x), .inl a, .inl b] : List AV).map (gv G))).length) Slot.unset).toArray) [] :=
    ⟨hH, va_S.rf, LR.entry G [.inr (.inr x), .inl a, .inl b] _ (show (3 : Nat) ≤ 4 by decide) ok, fun v q => by cases q⟩
  have hws : ∀ w ∈ WS, w.before (List.map (gv G) [Sum.inr (Sum.inr x), Sum.inl a, Sum.inl b]).toArray s = true := fun w hw => hts w (List.mem_cons_of_mem _ hw)
  have C : Cx sx0 G (Y0 26).1.cls (Y0 26).2.1 (P0.1 26).1 p s mI (List.map (gv G) [Sum.inr (Sum.inr x), Sum.inl a, Sum.inl b]).toArray meth c := ⟨B.exec, B.bytes, hml, findClass_of_methodNamed B.named, hws, B.notSynchronized, hK⟩
  have hin : decide ((Y0 26).1.name = "<init>") = true → meth.name = "<init>" := fun q => absurd q (by decide)
  obtain ⟨R, hRe⟩ : ∃ R, R = (headSpec (wsN P0 Y0 26) (rmN (d + 6) ((evW v w1).1 - w.1) ((evW v w1).2.1 - w.2.1))).room := ⟨_, rfl⟩
  have r1 : R.frames = d + 6 + 1 := by rw [hRe]; rfl
  have r2 : R.locals = 60 * (d + 6) + 300 := by rw [hRe]; rfl
  have r3 : R.cells = (evW v w1).1 - w.1 := by rw [hRe]; rfl
  have r4 : R.slots = (evW v w1).2.1 - w.2.1 := by rw [hRe]; rfl
  rw [← hRe]
  refine w_st C hin (by omega) (by omega) (Nat.zero_le _) (Nat.zero_le _) (all_ok 26 0 _ rfl).1 I (pc' := 1) (ls' := _) (st' := [.inr (.inr x)]) rfl fun H1 lc1 ls1 I1 => ?_
  refine w_st C hin (by omega) (by omega) (Nat.zero_le _) (Nat.zero_le _) (all_ok 26 1 _ rfl).1 I1 (pc' := 4) (ls' := [some (.inr (.inr x)), some (.inl a), some (.inl b), none]) (st' := [.inr (.inr (cv μ w (adr x) 1))]) (by simp only [stpO, stp, pA, if_pos hx, if_pos hs]; rfl) fun H2 lc2 ls2 I2 => ?_
  refine w_st C hin (by omega) (by omega) (Nat.zero_le _) (Nat.zero_le _) (all_ok 26 4 _ rfl).1 I2 (pc' := 5) (ls' := [some (.inr (.inr x)), some (.inl a), some (.inl b), none]) (st' := [.inl a, .inr (.inr (cv μ w (adr x) 1))]) rfl fun H3 lc3 ls3 I3 => ?_
  refine w_st C hin (by omega) (by omega) (Nat.zero_le _) (Nat.zero_le _) (all_ok 26 5 _ rfl).1 I3 (pc' := 6) (ls' := [some (.inr (.inr x)), some (.inl a), some (.inl b), none]) (st' := [.inl b, .inl a, .inr (.inr (cv μ w (adr x) 1))]) rfl fun H4 lc4 ls4 I4 => ?_
  obtain ⟨⟨⟨len, hd6, hlen6⟩, -⟩, cl6, -⟩ := all_ok 26 6 (.invokevirtual 153, 83, 3, 2) rfl
  obtain rfl : len = 3 := by simpa [isSw, ilen] using hlen6
  refine call_virt (x := cv μ w (adr x) 1) (l' := [.inl a, .inl b]) (rest := []) hR C hd6 cl6 I4 hy hs2 rfl (by decide) hv (show (3 : Nat) ≤ 3 by decide) (by omega) (by omega) ⟨by omega, by omega⟩ fun H5 lc5 okv1 hH5 hS5 => ?_
  have I5 : Inv G μ s (P0.1 26).1 w1 H5 lc5 [some (.inr (.inr x)), some (.inl a), some (.inl b), none] ls4 [.inl v] := ⟨hH5, hS5, I4.2.2.1, fun u q => by
    simp only [List.mem_cons, List.not_mem_nil, or_false] at q
    rw [q]; exact okv1 _ rfl⟩
  have hc5 : 0 + (w1.1 - w.1) ≤ R.cells := by omega
  have hs5 : 0 + (w1.2.1 - w.2.1) ≤ R.slots := by omega
  refine w_st C hin (by omega) (by omega) hc5 hs5 (all_ok 26 9 _ rfl).1 I5 (pc' := 10) (ls' := [some (.inr (.inr x)), some (.inl a), some (.inl b), some (.inl v)]) (st' := []) rfl fun H6 lc6 ls6 I6 => ?_
  refine w_st C hin (by omega) (by omega) hc5 hs5 (all_ok 26 10 _ rfl).1 I6 (pc' := 11) (ls' := [some (.inr (.inr x)), some (.inl a), some (.inl b), some (.inl v)]) (st' := [.inl v]) rfl fun H7 lc7 ls7 I7 => ?_
  refine w_st C hin (by omega) (by omega) hc5 hs5 (all_ok 26 11 _ rfl).1 I7 (pc' := 13) (ls' := [some (.inr (.inr x)), some (.inl a), some (.inl b), some (.inl v)]) (st' := [.inl (-1000000), .inl v]) rfl fun H8 lc8 ls8 I8 => ?_
  by_cases e0 : v = -1000000
  · refine w_st C hin (by omega) (by omega) hc5 hs5 (all_ok 26 13 _ rfl).1 I8 (pc' := 16) (ls' := [some (.inr (.inr x)), some (.inl a), some (.inl b), some (.inl v)]) (st' := []) (by simp only [stpO, stp, pII, cnd, if_pos e0]) fun H9 lc9 ls9 I9 => ?_
    have eW : evW v w1 = alloc w1 98 6 := by unfold evW; rw [if_pos (show v = vS from e0)]
    have q1 : (evW v w1).1 = w1.1 + 1 := by rw [eW]; rfl
    have q2 : (evW v w1).2.1 = w1.2.1 + 6 := by rw [eW]; rfl
    refine vx_throw0 (cc := (Y0 26).2.1) (own := "EchoTune") (cls := nsE) (names := nsN) (ik := 158) (ic := 160) (A := gA G) (rest := []) C.1 C.2.1 hl C.2.2.2.1 (by decide) (by decide) (hws _ vx_wk.1) (hws _ vx_wk.2.2.1) (fun w hw => (vx_in w hw).1.elim (fun q => xw_of hK w q) (fun q => hws w q)) ?_ hK.2.2.2.2.1.2.1 hK.2.2.2.2.1.2.2.1 I9.2.1 (I9.2.2.1.1.trans hml.symm) (by decide +kernel) (by decide +kernel) (by decide +kernel) (by decide +kernel) (fun x hx => (htab x hx).elim) (by rw [r1]; show 2 + 3 < _; omega) (by show 0 + (13 * (2 + 1) + 42) ≤ _; omega) (by omega) (by omega) C.2.2.2.2.2.1 ?_ I9.2.1.2.2 (by omega) (by omega)
    · intro w hw
      unfold vx_ot
      rcases List.mem_cons.mp hw with q | hw
      · rw [q, vx_wk.2.1]; exact Bool.or_true _
      · rcases List.mem_cons.mp hw with q | hw
        · rw [q, vx_wk.2.2.2]; exact Bool.or_true _
        · exact (vx_in w hw).2
    · intro t hal hz hq
      refine ⟨e0, rfl, (I9.1.moved hal).junk hz hq, Nat.le_trans I9.2.1.1 (by omega), fun q h1 h2 => ?_⟩
      rw [hq q (Nat.lt_of_lt_of_le h1 I9.2.1.1)]
      exact I9.2.1.2.1 q h1 h2
  · refine w_st C hin (by omega) (by omega) hc5 hs5 (all_ok 26 13 _ rfl).1 I8 (pc' := 24) (ls' := [some (.inr (.inr x)), some (.inl a), some (.inl b), some (.inl v)]) (st' := []) (by simp only [stpO, stp, pII, cnd, if_neg e0]) fun H9 lc9 ls9 I9 => ?_
    refine w_st C hin (by omega) (by omega) hc5 hs5 (all_ok 26 24 _ rfl).1 I9 (pc' := 25) (ls' := [some (.inr (.inr x)), some (.inl a), some (.inl b), some (.inl v)]) (st' := [.inl v]) rfl fun H10 lc10 ls10 I10 => ?_
    have eW : evW v w1 = w1 := by unfold evW; rw [if_neg (show ¬ v = vS from e0)]
    have q1 : (evW v w1).1 - w.1 = 0 + (w1.1 - w.1) := by rw [eW]; omega
    have q2 : (evW v w1).2.1 - w.2.1 = 0 + (w1.2.1 - w.2.1) := by rw [eW]; omega
    rw [q1, q2]
    refine vx_ret ?_
    obtain ⟨⟨⟨len, hd25, hlen25⟩, -⟩, -⟩ := all_ok 26 25 (.ireturn, 0, 0, 0) rfl
    obtain rfl : len = 1 := by simpa [isSw, ilen] using hlen25
    obtain ⟨i, hi⟩ : okv (.inl v) := okv1 _ rfl
    refine W.zret (ty := .int) C.1 C.2.1 (by rw [B.returns]; rfl) rfl (fun t ht hW => ⟨e0, rfl, okv1, ?_, ?_, fun q h1 h2 => ?_⟩) I10.2.1.2.2 hd25
    · rw [ht]; exact I10.1.moved hW.alike
    · rw [ht]; exact I10.2.1.1
    · rw [ht]; exact I10.2.1.2.1 q h1 h2
/-- behind a call that may throw -/
theorem vy_back {p : Program} {e : Env} {R : Room} {s : State} {mI : MethodId} {args : Array Value} {below : List Frame} {meth : Method} {c : Code} {Q : State → Prop} {H : Heap} {locs : List Loc} {cells slots mc ms pc : Nat} {lsC : Array Slot} {st0 rest : List Value} {v : Int} {w1 : AW} {a : Array Value}
    (hr : vx_Run p l e R s mI args below meth c H locs cells slots mc ms (F0 mI pc lsC st0) rest (evQ G μ v w1 a) (evX G μ v w1) (gA G)) (hS : va_S (gA G) s.heap H locs)
    (k : v ≠ vS → ∀ (H' : Heap) (locs' : List Loc), okv (.inl v) → HR G μ s w1 H' → va_S (gA G) s.heap H' locs' → W p l e R s mI args below meth c H' locs' (cells + mc) (slots + ms) Q (F0 mI (pc + 3) lsC (gv G (.inl v) :: rest)))
    (kx : v = vS → ∀ (H' : Heap) (locs' : List Loc) (q : Addr) (ce : Cell), HR G μ s (alloc w1 98 6) H' → va_S (gA G) s.heap H' locs' → H'[q]? = some ce → ce.vm = .none → s.vm.findClass nsE = some ce.cls → vx_W p l e R s mI args below meth c H' locs' (cells + mc) (slots + ms) Q (F0 mI pc lsC rest) q) : W p l e R s mI args below meth c H locs cells slots Q (F0 mI pc lsC st0) := by
  intro T hT X
  rcases hr T hT X with ⟨v1, st₀, t, T', L, h0, X', hL, e1, e2, ⟨hne, hv, ho, hh, hz, hk⟩, st⟩ | ⟨q, st₀, t, T', L, E, ce, h0, X', hL, e1, e2, ⟨hv, rfl, hh, hz, hk⟩, hce, hcv, hcl, st⟩
  · cases hv
    rw [h0] at hz hk
    have hal : s.vm.Alike t.vm := by rw [← e2]; exact X'.warmed.alike
    obtain ⟨t2, a1, b1⟩ := k hne T'.heap (locs ++ L) (ho _ rfl) (by rw [e1]; exact hh.moved hal.symm)
      ⟨Nat.le_trans hS.1 (by rw [e1]; exact hz), fun q h1 h2 => by rw [e1, hk q (Nat.lt_of_lt_of_le h1 hS.1) h2]; exact hS.2.1 q h1 h2, fun q hq => by
        rcases List.mem_append.mp hq with h | h
        · exact hS.2.2 q h
        · exact hL q h⟩ T' rfl X'
    exact ⟨t2, st t2 a1, b1⟩
  · rw [h0] at hz hk
    have hal : s.vm.Alike t.vm := by rw [← e2]; exact X'.warmed.alike
    obtain ⟨t2, a1, b1⟩ := kx hv T'.heap (locs ++ L) q ce (by rw [e1]; exact hh.moved hal.symm)
      ⟨Nat.le_trans hS.1 (by rw [e1]; exact hz), fun q h1 h2 => by rw [e1, hk q (Nat.lt_of_lt_of_le h1 hS.1) h2]; exact hS.2.1 q h1 h2, fun q hq => by
        rcases List.mem_append.mp hq with h | h
        · exact hS.2.2 q h
        · exact hL q h⟩ (by rw [e1]; exact hce) hcv hcl T' rfl X'
    exact ⟨t2, st.trans a1, b1⟩
end Vox
