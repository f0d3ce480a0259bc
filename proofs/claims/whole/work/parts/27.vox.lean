section Vox2
variable {G : GE} {μ : AM} {l : Launch}
def lvC : Cond := Cond.codeWith yVoice method_3_code 5 (some .int) [(0, 10, 13, 13)]
set_option maxRecDepth 100000 in
theorem lv_in : lvC ∈ WS ∧ Cond.static yVoice ∈ WS ∧ Cond.initialized "EchoTuneLaw" ∈ WS ∧ Cond.classLink "EchoTuneLaw" 13 nsE ∈ WS :=
  ⟨in_ws (i := 1357) (by decide +kernel) (by decide +kernel), in_ws (i := 1356) (by decide +kernel) (by decide +kernel), in_ws (i := 0) (by decide +kernel) (by decide +kernel), in_ws (i := 1358) (by decide +kernel) (by decide +kernel)⟩
set_option maxRecDepth 100000 in
theorem lv_cl : CLok P0 Y0 "EchoTuneLaw" (.invokevirtual 7, 26, 3, 0) :=
  ⟨in_ws (i := 1359) (by decide +kernel) (by decide +kernel), in_ws (i := 1360) (by decide +kernel) (by decide +kernel), in_ws (i := 1361) (by decide +kernel) (by decide +kernel), in_ws (i := 1) (by decide +kernel) (by decide +kernel), in_ws (i := 1362) (by decide +kernel) (by decide +kernel), Or.inl ⟨by decide, by decide⟩, by decide, by decide, by decide, by decide, by decide, by decide⟩
theorem lv_r0 : RIok sx0 "EchoTuneLaw" false (some .int) method_3_code 0 (.aload_n 3, 3, 0, 0) := ⟨⟨1, by decide +kernel, Or.inr rfl⟩, rfl⟩
theorem lv_r1 : RIok sx0 "EchoTuneLaw" false (some .int) method_3_code 1 (.iconst 0, 0, 0, 0) := ⟨⟨1, by decide +kernel, Or.inr rfl⟩, show (Int32.ofInt 0).toInt = 0 by decide⟩
theorem lv_r2 : RIok sx0 "EchoTuneLaw" false (some .int) method_3_code 2 (.aload_n 0, 0, 0, 0) := ⟨⟨1, by decide +kernel, Or.inr rfl⟩, rfl⟩
theorem lv_r3 : RIok sx0 "EchoTuneLaw" false (some .int) method_3_code 3 (.iload_n 1, 1, 0, 0) := ⟨⟨1, by decide +kernel, Or.inr rfl⟩, rfl⟩
theorem lv_r4 : RIok sx0 "EchoTuneLaw" false (some .int) method_3_code 4 (.iload_n 2, 2, 0, 0) := ⟨⟨1, by decide +kernel, Or.inr rfl⟩, rfl⟩
theorem lv_r8 : RIok sx0 "EchoTuneLaw" false (some .int) method_3_code 8 (.i2l, 0, 0, 0) := ⟨⟨1, by decide +kernel, Or.inr rfl⟩, trivial⟩
theorem lv_r9 : RIok sx0 "EchoTuneLaw" false (some .int) method_3_code 9 (.lastore, 0, 0, 0) := ⟨⟨1, by decide +kernel, Or.inr rfl⟩, trivial⟩
theorem lv_r10 : RIok sx0 "EchoTuneLaw" false (some .int) method_3_code 10 (.goto 7, 17, 0, 0) := ⟨⟨3, by decide +kernel, Or.inr rfl⟩, show ((10 : Nat) : Int) + 7 = ((17 : Nat) : Int) by decide⟩
theorem lv_r15 : RIok sx0 "EchoTuneLaw" false (some .int) method_3_code 15 (.iconst 1, 0, 0, 0) := ⟨⟨1, by decide +kernel, Or.inr rfl⟩, show (Int32.ofInt 1).toInt = 1 by decide⟩
theorem lv_r17 : RIok sx0 "EchoTuneLaw" false (some .int) method_3_code 17 (.iconst 0, 0, 0, 0) := ⟨⟨1, by decide +kernel, Or.inr rfl⟩, show (Int32.ofInt 0).toInt = 0 by decide⟩
theorem vy_ofWH {y : MethodName} {ws ws' : List Cond} {rm : Room} {Pc : Array Value → State → Prop} {Qc : Array Value → State → Outcome → State → Prop} {mc ms : Nat} {free : Addr → Prop} {cc : ByteArray} {maxL : Nat} {ret : Option FieldType} {hh : List (Nat × Nat × Nat × Nat)}
    (hy : plainName y.cls = true) (hw : ws = Cond.codeWith y cc maxL ret hh :: ws')
    (body : ∀ p e s m args below meth c s₁, BodyLoose p l y (headSpec ws rm) cc maxL ret e s m args below meth c s₁ → c.maxLocals = maxL → c.exceptionTable.toList = tableOf hh → Pc args s →
      W p l e (headSpec ws rm).room s m args below meth c s.heap [] 0 0 (MQ below Qc args s mc ms free) (entryFrame m args maxL)) : Met l y ws rm Pc Qc mc ms free := by
  refine MetFree.of_bodyS (code := cc) (maxLocals := maxL) (ret := ret) hy ?_ ?_
  · intro args s m h hn
    obtain ⟨m9, meth, c, hn9, h1, h2, h3, h4, -, h5, h6, -⟩ := Cond.codeWith_spec (atoms_spec (ws := ws) h _ (by rw [hw]; exact List.mem_cons_self))
    cases hn.symm.trans hn9
    exact ⟨meth, c, h1, h2, h3, h4, h5, h6⟩
  · intro p e s m args below meth c s₁ B hml hP _
    have hh0 : s₁.heap = s.heap := by rw [B.state]; rfl
    obtain ⟨t, a1, o, b1, b2, b3⟩ := body p e s m args below meth c s₁ B hml (vx_table (x := y) B (atoms_spec (ws := ws) B.pre _ (by rw [hw]; exact List.mem_cons_self))) hP s₁ hh0 (Stand.of_body B)
    exact ⟨t, o, a1, b1, b2, ⟨b3.1, b3.2⟩⟩
def lvR (v : Int) : Option AV := some (.inl (if v = vS then 1 else 0))
def lvW (v o : Int) (w1 : AW) : AW := if v = vS then alloc w1 98 6 else wC w1 (adr o) 0 v
set_option maxRecDepth 100000 in
set_option maxHeartbeats 1000000 in
theorem lv_met (hl : l.stackTraces = false) {n : Nat} (hR : RunS sx0 G P0 Y0 μ l n) {d : Nat} {x a b o v : Int} {w w1 : AW} (hx : 0 < x) (hs : (shv μ w (adr x)).1 = 0) (hy : 0 < cv μ w (adr x) 1) (hs2 : (shv μ w (adr (cv μ w (adr x) 1))).1 = 2)
    (hv : ex P0 μ n d 83 0 (ent (P0.1 83).1 [.inr (.inr (cv μ w (adr x) 1)), .inl a, .inl b]) [] w = some (some (.inl v), w1)) (ok : ∀ u ∈ ([.inr (.inr x), .inl a, .inl b, .inr (.inr o)] : List AV), okv u) (ho : 0 < o) (hso : v ≠ vS → shv μ w1 (adr o) = (101, 1)) :
    Met l yVoice (lvC :: WS) (rmN (d + 7) ((evW v w1).1 - w.1) ((evW v w1).2.1 - w.2.1)) (PcT sx0 G μ [.inr (.inr x), .inl a, .inl b, .inr (.inr o)] w) (QcT G μ (lvR v) (lvW v o w1)) ((evW v w1).1 - w.1) ((evW v w1).2.1 - w.2.1) (gA G) := by
  refine vy_ofWH (cc := method_3_code) (maxL := 5) (ret := some .int) (hh := [(0, 10, 13, 13)]) (by decide) rfl ?_
  intro p e s mI args below meth c s₁ B hml htab hP
  obtain ⟨rfl, hK, hH⟩ := hP
  have hts := atoms_spec (ws := lvC :: WS) B.pre
  have oka : okv (.inl a) := ok _ (by simp)
  have okb : okv (.inl b) := ok _ (by simp)
  rw [lg_entry_eq]
  have I : Inv G μ s 5 w s.heap [] [some (.inr (.inr x)), some (.inl a), some (.inl b), some (.inr (.inr o)), none] ((lg_sl (([.inr (.inr x), .inl a, .inl b, .inr (.inr o)] : List AV).map (gv G)) ++ List.replicate (5 - (lg_sl (([.inr (.inr x), .inl a, .inl b, .inr (.inr o)] : List AV).map (gv G))).length) Slot.unset).toArray) [] :=
    ⟨hH, va_S.rf, LR.entry G [.inr (.inr x), .inl a, .inl b, .inr (.inr o)] 5 (show (4 : Nat) ≤ 5 by decide) ok, fun v q => by cases q⟩
  obtain ⟨ls0, hls0⟩ : ∃ z, z = ((lg_sl (([.inr (.inr x), .inl a, .inl b, .inr (.inr o)] : List AV).map (gv G)) ++ List.replicate (5 - (lg_sl (([.inr (.inr x), .inl a, .inl b, .inr (.inr o)] : List AV).map (gv G))).length) Slot.unset).toArray) := ⟨_, rfl⟩
  rw [← hls0] at I ⊢
  have hws : ∀ w ∈ WS, w.before (List.map (gv G) [Sum.inr (Sum.inr x), Sum.inl a, Sum.inl b, Sum.inr (Sum.inr o)]).toArray s = true := fun w hw => hts w (List.mem_cons_of_mem _ hw)
  have C : Cx sx0 G "EchoTuneLaw" method_3_code 5 p s mI (List.map (gv G) [Sum.inr (Sum.inr x), Sum.inl a, Sum.inl b, Sum.inr (Sum.inr o)]).toArray meth c := ⟨B.exec, B.bytes, hml, findClass_of_methodNamed B.named, hws, B.notSynchronized, hK⟩
  have hin : false = true → meth.name = "<init>" := fun q => by cases q
  obtain ⟨R, hRe⟩ : ∃ R, R = (headSpec (lvC :: WS) (rmN (d + 7) ((evW v w1).1 - w.1) ((evW v w1).2.1 - w.2.1))).room := ⟨_, rfl⟩
  have r1 : R.frames = d + 7 + 1 := by rw [hRe]; rfl
  have r2 : R.locals = 60 * (d + 7) + 300 := by rw [hRe]; rfl
  have r3 : R.cells = (evW v w1).1 - w.1 := by rw [hRe]; rfl
  have r4 : R.slots = (evW v w1).2.1 - w.2.1 := by rw [hRe]; rfl
  rw [← hRe]
  obtain ⟨L, hLe⟩ : ∃ L : AL, L = [some (.inr (.inr x)), some (.inl a), some (.inl b), some (.inr (.inr o)), none] := ⟨_, rfl⟩
  refine w_st C hin (by omega) (by omega) (Nat.zero_le _) (Nat.zero_le _) lv_r0 I (pc' := 1) (ls' := L) (st' := [.inr (.inr o)]) (by rw [hLe]; rfl) fun H1 lc1 ls1 I1 => ?_
  refine w_st C hin (by omega) (by omega) (Nat.zero_le _) (Nat.zero_le _) lv_r1 I1 (pc' := 2) (ls' := L) (st' := [.inl 0, .inr (.inr o)]) rfl fun H2 lc2 ls2 I2 => ?_
  refine w_st C hin (by omega) (by omega) (Nat.zero_le _) (Nat.zero_le _) lv_r2 I2 (pc' := 3) (ls' := L) (st' := [.inr (.inr x), .inl 0, .inr (.inr o)]) (by rw [hLe]; rfl) fun H3 lc3 ls3 I3 => ?_
  refine w_st C hin (by omega) (by omega) (Nat.zero_le _) (Nat.zero_le _) lv_r3 I3 (pc' := 4) (ls' := L) (st' := [.inl a, .inr (.inr x), .inl 0, .inr (.inr o)]) (by rw [hLe]; rfl) fun H4 lc4 ls4 I4 => ?_
  refine w_st C hin (by omega) (by omega) (Nat.zero_le _) (Nat.zero_le _) lv_r4 I4 (pc' := 5) (ls' := L) (st' := [.inl b, .inl a, .inr (.inr x), .inl 0, .inr (.inr o)]) (by rw [hLe]; rfl) fun H5 lc5 ls5 I5 => ?_
  have hd5 : decode method_3_code 5 = .ok (.invokevirtual 7, 3) := by decide +kernel
  have okx : ∀ u ∈ ([.inr (.inr x), .inl a, .inl b] : List AV), okv u := fun u hu => ok u (by simp only [List.mem_cons, List.not_mem_nil, or_false] at hu ⊢; rcases hu with h | h | h <;> simp [h])
  refine vy_back (v := v) (w1 := w1) (a := (Value.ref (gad G (adr x)) :: ([.inl a, .inl b] : List AV).map (gv G)).toArray) (rest := ([.inl 0, .inr (.inr o)] : List AV).map (gv G))
    (vx_runV (As := ([.inl a, .inl b] : List AV).map (gv G)) (b := gad G (adr x)) (C := (Y0 26).1.cls) (bytes := (Y0 26).2.1) (maxL := (P0.1 26).1) (ret := (Y0 26).2.2) (n := 3 - 1) ⟨C.1, C.2.1, hml, C.2.2.2.1, hws⟩ (ev_met hl hR hx hs hy hs2 hv okx) (cw_of (d := d + 6) lv_cl hws (by omega) (by omega)) (pre_virt hK I5.1 I5.2.1 hx hs lv_cl.2.2.2.2.2.1) rfl rfl I5.2.2.1.1 ?_ ?_ hd5 ⟨by omega, by omega⟩) I5.2.1 ?_ ?_
  · show [gv G (.inl b), gv G (.inl a), gv G (.inr (.inr x)), gv G (.inl 0), gv G (.inr (.inr o))] = [gv G (.inl b), gv G (.inl a), Value.ref (gad G (adr x)), gv G (.inl 0), gv G (.inr (.inr o))]
    rw [gv_a G hx]
  · exact lv_room (by rw [gv_sum]; show (2 : Nat) ≤ 8; decide)
  · intro hne H6 lc6 okv6 hH6 hS6
    rw [Nat.zero_add, Nat.zero_add]
    have eW : evW v w1 = w1 := by unfold evW; rw [if_neg hne]
    have eL : lvW v o w1 = wC w1 (adr o) 0 v := by unfold lvW; rw [if_neg hne]
    have eR : lvR v = some (.inl 0) := by unfold lvR; rw [if_neg hne]
    rw [eW] at r3 r4 ⊢
    rw [eL, eR]
    have I6 : Inv G μ s 5 w1 H6 lc6 L ls5 [.inl v, .inl 0, .inr (.inr o)] := ⟨hH6, hS6, I5.2.2.1, fun u q => by
      simp only [List.mem_cons, List.not_mem_nil, or_false] at q
      rcases q with q | q | q
      · rw [q]; exact okv6
      · rw [q]; exact ⟨0, rfl⟩
      · rw [q]; trivial⟩
    refine w_st C hin (by omega) (by omega) (by omega) (by omega) lv_r8 I6 (pc' := 9) (ls' := L) (st' := [.inr (.inl v), .inl 0, .inr (.inr o)]) rfl fun H7 lc7 ls7 I7 => ?_
    refine w_step C hin (by omega) (by omega) lv_r9 I7 (pc' := 10) (ls' := L) (st' := []) (w' := wC w1 (adr o) 0 v) (by simp [stpO, stp, pJ, pI, pA, arN, inx, ho, hso hne]) ⟨by rw [r3]; exact Nat.le_refl _, by rw [r4]; exact Nat.le_refl _⟩ fun H8 lc8 c8 s8 ls8 I8 e1 e2 => ?_
    obtain rfl : c8 = w1.1 - w.1 := by
      have : (wC w1 (adr o) 0 v).1 = w1.1 := rfl
      omega
    obtain rfl : s8 = w1.2.1 - w.2.1 := by
      have : (wC w1 (adr o) 0 v).2.1 = w1.2.1 := rfl
      omega
    refine w_st C hin (by omega) (by omega) (by omega) (by omega) lv_r10 I8 (pc' := 17) (ls' := L) (st' := []) rfl fun H9 lc9 ls9 I9 => ?_
    refine w_st C hin (by omega) (by omega) (by omega) (by omega) lv_r17 I9 (pc' := 18) (ls' := L) (st' := [.inl 0]) rfl fun H10 lc10 ls10 I10 => ?_
    refine W.zret (ty := .int) C.1 C.2.1 (by rw [B.returns]) rfl (fun t ht hW => ⟨rfl, fun u q => by cases q; exact ⟨0, rfl⟩, ?_, ?_, fun q h1 h2 => ?_⟩) I10.2.1.2.2 (by decide +kernel)
    · rw [ht]; exact I10.1.moved hW.alike
    · rw [ht]; exact I10.2.1.1
    · rw [ht]; exact I10.2.1.2.1 q h1 h2
  · intro hev H6 lc6 q ce hH6 hS6 hce hcv hcl
    rw [Nat.zero_add, Nat.zero_add]
    have eW : evW v w1 = alloc w1 98 6 := by unfold evW; rw [if_pos hev]
    have eL : lvW v o w1 = alloc w1 98 6 := by unfold lvW; rw [if_pos hev]
    have eR : lvR v = some (.inl 1) := by unfold lvR; rw [if_pos hev]
    rw [eL, eR]
    refine vy_catch (own := "EchoTuneLaw") (name := nsE) (E := nsE) (ce := ce) C.2.2.2.1 ⟨0, 10, 13, 13⟩ htab (by decide) (by decide) (hws _ lv_in.2.2.2) (xw_of hK _ (by simp [xwL])) hce hcv hcl ?_
    have hd13 : decode method_3_code 13 = .ok (.astore 4, 2) := by decide +kernel
    refine lv_astore C.1 C.2.1 hd13 I5.2.2.1.has (show 4 < 5 by decide) rfl fun ls' g => ?_
    have I7 : Inv G μ s 5 (alloc w1 98 6) H6 lc6 [none, none, none, none, none] ls' [] := ⟨hH6, hS6, ⟨g.1, g.2.1, rfl, fun i v h => by
      rcases i with _ | _ | _ | _ | _ | i <;> simp at h⟩, fun u q => by cases q⟩
    refine w_st C hin (by omega) (by omega) (by omega) (by omega) lv_r15 I7 (pc' := 16) (ls' := [none, none, none, none, none]) (st' := [.inl 1]) rfl fun H8 lc8 ls8 I8 => ?_
    refine W.zret (ty := .int) C.1 C.2.1 (by rw [B.returns]) rfl (fun t ht hW => ⟨rfl, fun u q => by cases q; exact ⟨1, rfl⟩, ?_, ?_, fun q h1 h2 => ?_⟩) I8.2.1.2.2 (by decide +kernel)
    · rw [ht]; exact I8.1.moved hW.alike
    · rw [ht]; exact I8.2.1.1
    · rw [ht]; exact I8.2.1.2.1 q h1 h2
set_option maxRecDepth 100000 in
theorem vox_ok (hl : l.stackTraces = false) : VoxOK sx0 G P0 Y0 μ l := by
  intro n hR d idx a rest w r1 w1 hv p e R s mI args below meth c H locs cells slots lsC ls nL cc Q pc C hd hlk hR1 hR2 I hrest hc hs go
  have main : ∀ (d' : Nat) (x a b o v : Int) (w' : AW), d = d' + 8 → 0 < x → (shv μ w (adr x)).1 = 0 → 0 < o → 0 < cv μ w (adr x) 1 → (shv μ w (adr (cv μ w (adr x) 1))).1 = 2 → (v ≠ vS → shv μ w' (adr o) = (101, 1)) →
      ex P0 μ n d' 83 0 (ent (P0.1 83).1 [.inr (.inr (cv μ w (adr x) 1)), .inl a, .inl b]) [] w = some (some (.inl v), w') → r1 = lvR v → w1 = lvW v o w' → Inv G μ s nL w H locs ls lsC (([.inr (.inr x), .inl a, .inl b, .inr (.inr o)] : List AV).reverse ++ rest) →
      W p l e R s mI args below meth c H locs cells slots Q (F0 mI pc lsC ((([.inr (.inr x), .inl a, .inl b, .inr (.inr o)] : List AV).reverse ++ rest).map (gv G))) := by
    intro d' x a b o v w' hde hx hsx ho hy hs2 hso hq hr hw I
    have g1 := ex_grow n hq
    have ok : ∀ u ∈ ([.inr (.inr x), .inl a, .inl b, .inr (.inr o)] : List AV), okv u := fun u q => I.2.2.2 u (List.mem_append_left _ (List.mem_reverse.mpr q))
    have hM := lv_met hl hR hx hsx hy hs2 hq ok ho hso
    have e1 : (evW v w').1 = w1.1 ∧ (evW v w').2.1 = w1.2.1 := by
      rw [hw]
      unfold evW lvW
      by_cases q : v = vS
      · rw [if_pos q, if_pos q]; exact ⟨rfl, rfl⟩
      · rw [if_neg q, if_neg q]; exact ⟨rfl, rfl⟩
    have e2 : w.1 ≤ w1.1 ∧ w.2.1 ≤ w1.2.1 := by
      rw [← e1.1, ← e1.2]
      unfold evW
      split
      · exact ⟨Nat.le_succ_of_le g1.1, Nat.le_trans g1.2 (Nat.le_add_right _ _)⟩
      · exact g1
    rw [← hr, ← hw, e1.1, e1.2] at hM
    obtain ⟨hx9, hb, hml, hown, hts, hlocks, hK⟩ := C
    refine call_back (a := (([.inr (.inr x), .inl a, .inl b, .inr (.inr o)] : List AV).map (gv G)).toArray) (rest := rest.map (gv G)) (vx_runSW (As := ([.inr (.inr x), .inl a, .inl b, .inr (.inr o)] : List AV).map (gv G)) (bytes := method_3_code) (maxL := 5) (ret := some .int) (hh := [(0, 10, 13, 13)]) (n := 4) ⟨hx9, hb, hml, hown, hts⟩ hM (vx_cwSW (ws' := WS) 4 hts ?_ rfl rfl rfl ⟨by decide, by decide, by decide⟩ ⟨?_, ?_⟩) ⟨PcT.blind, fun U hU hW => ⟨rfl, hK.to hW (fun q h1 h2 => by rw [hU]; exact I.2.1.2.1 q h1 h2), by rw [hU]; exact I.1.moved hW.alike⟩⟩ rfl rfl I.2.2.1.1 ?_ (lv_room (by rw [gv_sum]; exact hrest)) hd ⟨by omega, by omega⟩) I.2.1 go
    · intro w hw
      rcases List.mem_append.mp hw with q | q
      · simp only [List.mem_cons, List.not_mem_nil, or_false] at q
        rcases q with q | q | q <;> rw [q]
        · exact WS_good _ hlk
        · exact WS_good _ lv_in.2.1
        · exact WS_good _ lv_in.2.2.1
      · rcases List.mem_cons.mp q with q | q
        · rw [q]; exact WS_good _ lv_in.1
        · exact WS_good _ q
    · show d' + 7 + 1 + 1 ≤ R.frames
      omega
    · show 8 + (5 + 11) + (60 * (d' + 7) + 300) ≤ R.locals
      omega
    · show (List.map (gv G) (([.inr (.inr x), .inl a, .inl b, .inr (.inr o)] : List AV).reverse ++ rest)) = _
      simp
  unfold vox at hv
  split at hv
  · split at hv
    · split at hv
      · rename_i d' _ x a b o hcnd
        obtain ⟨⟨hx, hsx, ho, hso⟩, hy, hs2⟩ := hcnd
        split at hv
        · rename_i v w' hq
          split at hv
          · rename_i e0
            cases hv
            exact main d' x a b o v w' rfl hx hsx ho hy hs2 (fun q => absurd e0 q) hq (by unfold lvR; rw [if_pos (show v = vS from e0)]) (by unfold lvW; rw [if_pos (show v = vS from e0)]; rfl) I
          · rename_i e0
            split at hv
            · rename_i e5
              cases hv
              exact main d' x a b o v w' rfl hx hsx ho hy hs2 (fun _ => e5) hq (by unfold lvR; rw [if_neg (show ¬ v = vS from e0)]) (by unfold lvW; rw [if_neg (show ¬ v = vS from e0)]) I
            · cases hv
        · cases hv
      · cases hv
    · cases hv
  · cases hv
end Vox2
