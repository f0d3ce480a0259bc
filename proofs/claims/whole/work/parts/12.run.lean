/-- a run of n steps of the plain machine is a run of the real one -/
def RunS (sx : Nat → String × Nat × String) (G : GE) (P : PG) (Y : MN) (μ : AM) (l : Launch) (n : Nat) : Prop := ∀ (d m pc : Nat) (ls : AL) (st : List AV) (w : AW) (r : Option AV) (w' : AW), ex P μ n d m pc ls st w = some (r, w') →
  ∀ {p : Program} {e : Env} {R : Room} {s : State} {mI : MethodId} {args : Array Value} {below : List Frame} {meth : Method} {c : Code} {H : Heap} {locs : List Loc} {cells slots K1 K2 : Nat} {lsC : Array Slot}, Cx sx G (Y m).1.cls (Y m).2.1 (P.1 m).1 p s mI args meth c → meth.name = (Y m).1.name → meth.sig.returnType = (Y m).2.2 → d + 1 ≤ R.frames → 60 * d + 300 ≤ R.locals →
  Inv G μ s (P.1 m).1 w H locs ls lsC st → K1 ≤ R.cells → K2 ≤ R.slots → cells + w'.1 = K1 + w.1 → slots + w'.2.1 = K2 + w.2.1 → W p l e R s mI args below meth c H locs cells slots (MQ below (QcT G μ r w') args s K1 K2 (gA G)) (F0 mI pc lsC (st.map (gv G)))
def yVoice : MethodName := ⟨"EchoTuneLaw", "voice", "(LEchoTune;II[J)I"⟩
/-- the law's own 'voice', which hears what the class throws -/
def VoxOK (sx : Nat → String × Nat × String) (G : GE) (P : PG) (Y : MN) (μ : AM) (l : Launch) : Prop := ∀ n, RunS sx G P Y μ l n → ∀ (d idx : Nat) (a rest : List AV) (w : AW) (r1 : Option AV) (w1 : AW), vox P μ d a w (fun d a w => ex P μ n d P.2.1 0 (ent (P.1 P.2.1).1 a) [] w) = some (r1, w1) →
  ∀ {p : Program} {e : Env} {R : Room} {s : State} {mI : MethodId} {args : Array Value} {below : List Frame} {meth : Method} {c : Code} {H : Heap} {locs : List Loc} {cells slots : Nat} {lsC : Array Slot} {ls : AL} {nL : Nat} {cc : ByteArray} {Q : State → Prop} {pc : Nat}, Cx sx G "EchoTuneLaw" cc nL p s mI args meth c → decode cc pc = .ok (.invokestatic idx, 3) → Cond.methodLink "EchoTuneLaw" idx yVoice ∈ WS → d + 2 ≤ R.frames → 60 * (d + 1) + 300 ≤ R.locals →
  Inv G μ s nL w H locs ls lsC (a.reverse ++ rest) → asum rest ≤ 8 → cells + w1.1 ≤ R.cells + w.1 → slots + w1.2.1 ≤ R.slots + w.2.1 →
  (∀ (H' : Heap) (locs' : List Loc), okr r1 → HR G μ s w1 H' → va_S (gA G) s.heap H' locs' → W p l e R s mI args below meth c H' locs' (cells + (w1.1 - w.1)) (slots + (w1.2.1 - w.2.1)) Q (F0 mI (pc + 3) lsC ((r1.map (gv G)).toList ++ rest.map (gv G)))) →
  W p l e R s mI args below meth c H locs cells slots Q (F0 mI pc lsC ((a.reverse ++ rest).map (gv G)))
theorem met_ofWF {l : Launch} {y : MethodName} {ws ws' : List Cond} {rm : Room} {Pc : Array Value → State → Prop} {Qc : Array Value → State → Outcome → State → Prop} {mc ms : Nat} {free : Addr → Prop} {cc : ByteArray} {maxL : Nat} {ret : Option FieldType}
    (hy : plainFor y = true) (hw : ws = Cond.code y cc maxL ret :: ws')
    (body : ∀ p e s m args below meth c s₁, BodyLoose p l y (headSpec ws rm) cc maxL ret e s m args below meth c s₁ → c.maxLocals = maxL → Pc args s →
      W p l e (headSpec ws rm).room s m args below meth c s.heap [] 0 0 (MQ below Qc args s mc ms free) (entryFrame m args maxL)) : Met l y ws rm Pc Qc mc ms free := by
  refine MetFree.of_bodySF (code := cc) (maxLocals := maxL) (ret := ret) hy ?_ ?_
  · intro args s m h hn
    obtain ⟨meth, c, h1, h2, h3, h4, h5, h6, -, -⟩ := Cond.code_spec hn (atoms_spec (ws := ws) h _ (by rw [hw]; exact List.mem_cons_self))
    exact ⟨meth, c, h1, h2, h3, h4, h5, h6⟩
  · intro p e s m args below meth c s₁ B hml hP _
    have hh0 : s₁.heap = s.heap := by rw [B.state]; rfl
    obtain ⟨t, a1, o, b1, b2, b3⟩ := body p e s m args below meth c s₁ B hml hP s₁ hh0 (Stand.of_body B)
    exact ⟨t, o, a1, b1, b2, ⟨b3.1, b3.2⟩⟩
theorem mt_of {sx : Nat → String × Nat × String} {G : GE} {P : PG} {Y : MN} {μ : AM} {l : Launch} {n : Nat} (hR : RunS sx G P Y μ l n) {d m : Nat} {a : List AV} {w : AW} {r : Option AV} {w' : AW} (h : ex P μ n d m 0 (ent (P.1 m).1 a) [] w = some (r, w')) (hp : plainFor (Y m).1 = true) (ha : asum a ≤ (P.1 m).1) (ok : ∀ v ∈ a, okv v) : Mt sx G P Y μ l d m a w r w' := by
  refine met_ofWF (cc := (Y m).2.1) (maxL := (P.1 m).1) (ret := (Y m).2.2) hp rfl ?_
  intro p e s mI args below meth c s₁ B hml hv
  obtain ⟨rfl, hK, hH⟩ := hv
  have hts := atoms_spec (ws := wsN P Y m) B.pre
  have hg := ex_grow n h
  rw [lg_entry_eq]
  have I : Inv G μ s (P.1 m).1 w s.heap [] (ent (P.1 m).1 a) ((lg_sl (a.map (gv G)) ++ List.replicate ((P.1 m).1 - (lg_sl (a.map (gv G))).length) Slot.unset).toArray) [] :=
    ⟨hH, va_S.rf, LR.entry G a _ ha ok, fun v q => by cases q⟩
  exact hR d m 0 _ _ w r w' h (R := rmN d (w'.1 - w.1) (w'.2.1 - w.2.1)) ⟨B.exec, B.bytes, hml, findClass_of_methodNamed B.named, fun w hw => hts w (List.mem_cons_of_mem _ hw), B.notSynchronized, hK⟩ (name_of_methodNamed B.named B.method).1 B.returns (Nat.le_refl _) (Nat.le_refl _) I (Nat.le_refl _) (Nat.le_refl _)
    (by show 0 + w'.1 = (w'.1 - w.1) + w.1; omega) (by show 0 + w'.2.1 = (w'.2.1 - w.2.1) + w.2.1; omega)
theorem ex_nil {P : PG} {μ : AM} {m : Nat} (h : (P.1 m).2 = []) (n d pc : Nat) (ls : AL) (st : List AV) (w : AW) : ex P μ n d m pc ls st w = none := by
  cases n with
  | zero => rfl
  | succ n => rw [ex, h]; rfl
set_option maxRecDepth 100000 in
theorem rmN_ok {d mc ms x : Nat} {R : Room} (h1 : d + 1 + 1 ≤ R.frames) (h2 : x ≤ 41) (h3 : 60 * (d + 1) + 300 ≤ R.locals) : (rmN d mc ms).frames + 1 ≤ R.frames ∧ 8 + (x + 11) + (rmN d mc ms).locals ≤ R.locals := by
  refine ⟨h1, ?_⟩
  have e : (rmN d mc ms).locals = 60 * d + 300 := rfl
  rw [e]
  clear e h1
  generalize R.locals = k at h3 ⊢
  omega
theorem rty_ok {G : GE} {a : Nat} {x : Int} (h : rok a x = true) (ok : okv (.inl x)) : ∃ ty, rty a = some ty ∧ narrow ty (gv G (.inl x)) = gv G (.inl x) := by
  obtain ⟨i, rfl⟩ := ok
  rw [gv_i]
  simp only [rok, Bool.or_eq_true, Bool.and_eq_true, decide_eq_true_eq] at h
  rcases h with ((h | h) | h) | h
  · exact ⟨.int, by rw [h]; rfl, rfl⟩
  · refine ⟨.boolean, by rw [h.1]; rfl, ?_⟩
    rcases h.2 with q | q
    · rw [show i = 0 from Int32.toInt_inj.mp q]; rfl
    · rw [show i = 1 from Int32.toInt_inj.mp q]; rfl
  · refine ⟨.char, by rw [h.1.1]; rfl, ?_⟩
    have e : i = nI i.toInt.toNat := by
      apply Int32.toInt_inj.mp
      rw [nI_toInt (by omega)]
      omega
    rw [e]
    exact (pk_charN (by omega)).1
  · refine ⟨.byte, by rw [h.1.1]; rfl, ?_⟩
    rw [narrow_byte]
    congr 1
    apply Int32.toInt_inj.mp
    rw [← e_i2b]
    exact Int.bmod_eq_of_le (by omega) (by omega)
/-- the receiver of a virtual call -/
theorem recv_ok {sx : Nat → String × Nat × String} {G : GE} {μ : AM} {s : State} {w : AW} {H : Heap} {x : Int} {C : String} {k : Nat} (hK : KF sx G s) (hH : HR G μ s w H) (hs : (shv μ w (adr x)).1 = k) (hC : (k < 13 ∧ C = cN k) ∨ (k = 60 ∧ C = "java/lang/String")) : ∃ cellB : Cell, H[gad G (adr x)]? = some cellB ∧ cellB.vm.isStatics = false ∧ s.vm.findClass C = some cellB.cls := by
  have hC2 := hH.2.2.2.2.2 _ (hH.lt (a := adr x) (by rw [hs]; omega))
  rcases hC with ⟨h1, h2⟩ | ⟨h1, h2⟩
  · obtain ⟨⟨cell, q1, q2, q3, -⟩, -⟩ := hC2.1 (by rw [hs]; exact h1)
    rw [hs] at q2
    exact ⟨cell, q1, by rw [q3]; rfl, by rw [q2, h2]; exact (hK.1 k h1).2.1⟩
  · obtain ⟨⟨cell, q1, q2, q3, -⟩, -⟩ := hC2.2.1 (by rw [hs]; exact h1)
    exact ⟨cell, q1, q2, by rw [h2]; exact q3⟩
set_option maxHeartbeats 4000000 in
set_option maxRecDepth 100000 in
theorem run_all {sx : Nat → String × Nat × String} {G : GE} {P : PG} {Y : MN} {μ : AM} {l : Launch}
    (hOK : ∀ m pc ri, (P.1 m).2.getD pc none = some ri → RIok sx (Y m).1.cls (decide ((Y m).1.name = "<init>")) (Y m).2.2 (Y m).2.1 pc ri ∧ CLok P Y (Y m).1.cls ri ∧ (∀ idx, ri.1 = .invokestatic idx → ri.2.1 = 9997 → (Y m).1.cls = "EchoTuneLaw" ∧ Cond.methodLink "EchoTuneLaw" idx yVoice ∈ WS) ∧ (∀ idx, ri.1 = .invokevirtual idx → ri.2.1 ≠ 9997) ∧ ∀ idx, ri.1 = .invokespecial idx → ri.2.1 ≠ 9997)
    (hP9 : (P.1 9999).2 = [] ∧ (P.1 9998).2 = []) (hN : nativeFrameWords "java/lang/System" "arraycopy" 5 ≤ 100) (hV : VoxOK sx G P Y μ l) : ∀ n, RunS sx G P Y μ l n := by
  intro n
  induction n with
  | zero => intro d m pc ls st w r w' h; cases h
  | succ n ih =>
    intro d m pc ls st w r w' h p e R s mI args below meth c H locs cells slots K1 K2 lsC C hnm hret hR1 hR2 I hK1 hK2 hcel hslo
    rw [ex] at h
    cases hc : (P.1 m).2.getD pc none with
    | none => rw [hc] at h; cases h
    | some ri =>
      rw [hc] at h
      simp only [] at h
      obtain ⟨ok, cl, cl2, cl3, cl4⟩ := hOK m pc ri hc
      have hst := I.2.2.2
      have hf0 : (none = some (r, w')) = False := by simp
      have h' := (n_stp (fun o : RS => o = some (r, w')) μ ri pc ls st w _ _ _ _).mp h
      simp only [hf0] at h'
      refine step_sound C (fun q => by rw [hnm]; exact of_decide_eq_true q) (by omega) (by omega) (by omega) ok I h' ?_ ?_ ?_ ?_
      · intro pc' ls' st' w1 hk
        have := ex_grow n hk
        constructor <;> omega
      · intro pc' ls' st' w1 H' locs' cells' slots' lsC' hk I' e1 e2
        exact ih d m pc' ls' st' w1 r w' hk C hnm hret hR1 hR2 I' hK1 hK2 (by omega) (by omega)
      · intro r' hr hat
        cases hr
        obtain ⟨⟨len, hd, hlen⟩, lk⟩ := ok
        have ec : K1 = cells := by omega
        have es : K2 = slots := by omega
        rw [ec, es]
        obtain ⟨hx, hb, hml, hown, hts, hlocks, hK⟩ := C
        have fin : ∀ t : State, t.heap = H → s.WarmedH t.vm → okr r → QcT G μ r w args s (.returned (r.map (gv G))) t := by
          intro t ht hW ho
          refine ⟨rfl, ho, ?_, ?_, fun q h1 h2 => ?_⟩
          · rw [ht]; exact I.1.moved hW.alike
          · rw [ht]; exact I.2.1.1
          · rw [ht]; exact I.2.1.2.1 q h1 h2
        obtain ⟨i, a, b, v⟩ := ri
        rcases hat with ⟨e1, x, e2, e3, e4⟩ | ⟨e1, x, e2, e3⟩ | ⟨e1, e2, e3⟩
        · simp only [] at e1
          subst e1 e2 e3
          obtain rfl : len = 1 := by simpa [isSw, ilen] using hlen
          obtain ⟨ty, t1, t2⟩ := rty_ok (G := G) e4 (hst _ List.mem_cons_self)
          have lk : (Y m).2.2 = rty a := lk
          exact W.zret hx hb (by rw [hret, lk]; exact t1) t2 (fun t ht hW => fin t ht hW (fun v q => by cases q; exact hst _ List.mem_cons_self)) I.2.1.2.2 hd
        · simp only [] at e1
          subst e1 e2 e3
          obtain rfl : len = 1 := by simpa [isSw, ilen] using hlen
          have lk : (Y m).2.2 = some .long := lk
          exact W.lret hx hb (by rw [hret, lk]) (fun t ht hW => fin t ht hW (fun v q => by cases q; exact hst _ List.mem_cons_self)) I.2.1.2.2 hd
        · simp only [] at e1
          subst e1 e2 e3
          obtain rfl : len = 1 := by simpa [isSw, ilen] using hlen
          have lk : (Y m).2.2 = none := lk
          exact W.vret hx hb (by rw [hret, lk]) (fun t ht hW => fin t ht hW (fun v q => by cases q)) I.2.1.2.2 hd
      · intro mq a rest hk hat
        cases d with
        | zero => cases hk
        | succ d =>
          simp only [] at hk
          obtain ⟨s1, s2, s3, s4⟩ := hat
          subst s1
          have oka : ∀ v ∈ a, okv v := fun v q => hst v (List.mem_append_left _ (List.mem_reverse.mpr q))
          have okrest : ∀ v ∈ rest, okv v := fun v q => hst v (List.mem_append_right _ q)
          cases hv : (if mq = 9997 then vox P μ d a w (fun d a w => ex P μ n d P.2.1 0 (ent (P.1 P.2.1).1 a) [] w) else fitA P mq a (ex P μ n d mq 0 (ent (P.1 mq).1 a) [] w)) with
          | none => rw [hv] at hk; cases hk
          | some q =>
            obtain ⟨r1, w1⟩ := q
            rw [hv] at hk
            simp only [] at hk
            have g2 := ex_grow n hk
            have go : ∀ (H' : Heap) (locs' : List Loc), w.1 ≤ w1.1 → w.2.1 ≤ w1.2.1 → okr r1 → HR G μ s w1 H' → va_S (gA G) s.heap H' locs' → W p l e R s mI args below meth c H' locs' (cells + (w1.1 - w.1)) (slots + (w1.2.1 - w.2.1)) (MQ below (QcT G μ r w') args s K1 K2 (gA G)) (F0 mI (pc + 3) lsC ((r1.map (gv G)).toList ++ rest.map (gv G))) := by
              intro H' locs' z1 z2 ho hh hS
              have := ih (d + 1) m (pc + 3) ls (r1.toList ++ rest) w1 r w' hk (e := e) (below := below) C hnm hret hR1 hR2 (H := H') (locs := locs') (cells := cells + (w1.1 - w.1)) (slots := slots + (w1.2.1 - w.2.1)) (lsC := lsC) ⟨hh, hS, I.2.2.1, fun v q => by
                rcases List.mem_append.mp q with q | q
                · exact ho v (Option.mem_toList.mp q)
                · exact okrest v q⟩ hK1 hK2 (by omega) (by omega)
              rw [show ((r1.map (gv G)).toList ++ rest.map (gv G)) = (r1.toList ++ rest).map (gv G) by cases r1 <;> rfl]
              exact this
            obtain ⟨⟨len, hd, hlen⟩, lk⟩ := ok
            obtain ⟨i, a0, b0, v0⟩ := ri
            by_cases hm : mq = 9997
            · rw [if_pos hm] at hv
              have g1 := vox_grow (fun d a w r w' h => ex_grow n h) hv
              rcases s4 with ⟨k, x, l', e1, e2, e3⟩ | ⟨k, e1, e2⟩ | ⟨k, x, l', e1, e2, e3⟩
              · exact absurd (e2.symm.trans hm) (cl4 k e1)
              · obtain ⟨c1, c2⟩ := cl2 k e1 (e2.symm.trans hm)
                simp only [] at e1
                subst e1
                obtain rfl : len = 3 := by simpa [isSw, ilen] using hlen
                rw [c1] at C
                exact hV n ih d k a rest w r1 w1 hv C hd c2 (by omega) (by omega) I s2 (by omega) (by omega) (fun H' lc h1 h2 h3 => go H' lc g1.1 g1.2 h1 h2 h3)
              · exact absurd (e2.symm.trans hm) (cl3 k e1)
            · rw [if_neg hm] at hv
              obtain ⟨ha, hv⟩ := fitA_iff.mp hv
              have g1 := ex_grow n hv
              obtain ⟨hx, hb, hml, hown, hts, hlocks, hK⟩ := C
              have hpc : ∀ U : State, U.heap = H → s.WarmedH U.vm → PcT sx G μ a w (a.map (gv G)).toArray U := fun U hU hW => ⟨rfl, hK.to hW (fun q h1 h2 => by rw [hU]; exact I.2.1.2.1 q h1 h2), by rw [hU]; exact I.1.moved hW.alike⟩
              have hsz : (F0 mI pc lsC ((a.reverse ++ rest).map (gv G))).locals.size = (P.1 m).1 := I.2.2.1.1
              have hrs : 2 * (F0 mI pc lsC ((a.reverse ++ rest).map (gv G))).monitorRoom + ((rest.map (gv G)).map fun v => v.category).sum ≤ 8 := lv_room (by rw [gv_sum]; exact s2)
              have hfit : cells + (w1.1 - w.1) ≤ R.cells ∧ slots + (w1.2.1 - w.2.1) ≤ R.slots := ⟨by omega, by omega⟩
              have hroom : d + 1 + 1 ≤ R.frames := by omega
              rcases s4 with ⟨k, x, l', e1, e2, e3, e4⟩ | ⟨k, e1, e2⟩ | ⟨k, x, l', e1, e2, e3, e4, e5⟩
              · simp only [] at e1 e2
                subst e1 e2 e3
                obtain rfl : len = 3 := by simpa [isSw, ilen] using hlen
                rcases cl with q | ⟨c1, c2, c3, c4, c5, c6, c7, c8, c9, c10, c11⟩
                · rw [q, ex_nil hP9.1] at hv; cases hv
                · have hM := mt_of ih hv c7 ha oka
                  have hst2 : (F0 mI pc lsC (List.map (gv G) ((Sum.inr (Sum.inr x) :: l').reverse ++ rest))).stack = (l'.map (gv G)).reverse ++ .ref (gad G (adr x)) :: rest.map (gv G) := by
                    show (List.map (gv G) ((Sum.inr (Sum.inr x) :: l').reverse ++ rest)) = _
                    simp [gv_a G e4]
                  have hp : PreS s H (PcT sx G μ (.inr (.inr x) :: l') w) (.ref (gad G (adr x)) :: l'.map (gv G)) := ⟨PcT.blind, fun U hU hW => by
                    have := hpc U hU hW
                    rwa [List.map_cons, gv_a G e4] at this⟩
                  have hln : (l'.map (gv G)).length = b0 - 1 := by rw [List.length_map]; simp only [List.length_cons] at s3; omega
                  have hrm : (rmN d (w1.1 - w.1) (w1.2.1 - w.2.1)).frames + 1 ≤ R.frames ∧ 8 + ((P.1 mq).1 + 11) + (rmN d (w1.1 - w.1) (w1.2.1 - w.2.1)).locals ≤ R.locals := rmN_ok hR1 (by assumption) hR2
                  have hws : wsN P Y mq = Cond.code (Y mq).1 (Y mq).2.1 (P.1 mq).1 none :: WS := by rw [wsN, c6]
                  rcases c1 with c1 | c1
                  · exact call_back (a := (Value.ref (gad G (adr x)) :: l'.map (gv G)).toArray) (rest := rest.map (gv G)) (va_runI (As := l'.map (gv G)) (b := gad G (adr x)) (bytes := (Y mq).2.1) (maxL := (P.1 mq).1) (n := b0 - 1) ⟨hx, hb, hml, hown, hts⟩ hM (cwI _ hts (good_ws c5) hws rfl rfl (hts _ c4) (hts _ c1) (hts _ c3) c2 ⟨c9, c10, c11⟩ hrm) hp rfl hln hsz hst2 hrs hd hfit) I.2.1 (fun H' lc h1 h2 h3 => go H' lc g1.1 g1.2 h1 h2 h3)
                  · exact call_back (a := (Value.ref (gad G (adr x)) :: l'.map (gv G)).toArray) (rest := rest.map (gv G)) (va_runIN (As := l'.map (gv G)) (b := gad G (adr x)) (host := "EchoTune") (bytes := (Y mq).2.1) (maxL := (P.1 mq).1) (n := b0 - 1) ⟨hx, hb, hml, hown, hts⟩ hM ⟨va_cnB _ hts (good_ws c5) hws rfl rfl (hK.2.2.2.2.2 _ c1) (hts _ c4) ⟨c9, c10, c11⟩ hrm, c2, hts _ c3⟩ hp rfl hln hsz hst2 hrs hd hfit) I.2.1 (fun H' lc h1 h2 h3 => go H' lc g1.1 g1.2 h1 h2 h3)
              · simp only [] at e1 e2
                subst e1 e2
                obtain rfl : len = 3 := by simpa [isSw, ilen] using hlen
                rcases cl with q | q | ⟨c1, c2, c3, c4, c5, c6, c7, c8, c9, c10⟩
                · rw [q, ex_nil hP9.2] at hv; cases hv
                · exact absurd q hm
                · have hM := mt_of ih hv c5 ha oka
                  have hst2 : (F0 mI pc lsC (List.map (gv G) (a.reverse ++ rest))).stack = (a.map (gv G)).reverse ++ rest.map (gv G) := by
                    show (List.map (gv G) (a.reverse ++ rest)) = _
                    simp
                  have hp : PreS s H (PcT sx G μ a w) (a.map (gv G)) := ⟨PcT.blind, hpc⟩
                  have hln : (a.map (gv G)).length = b0 := by rw [List.length_map]; exact s3
                  have hrm : (rmN d (w1.1 - w.1) (w1.2.1 - w.2.1)).frames + 1 ≤ R.frames ∧ 8 + ((P.1 mq).1 + 11) + (rmN d (w1.1 - w.1) (w1.2.1 - w.2.1)).locals ≤ R.locals := rmN_ok hR1 (by assumption) hR2
                  rcases c1 with c1 | c1
                  · refine call_back (a := (a.map (gv G)).toArray) (rest := rest.map (gv G)) (va_runS (As := a.map (gv G)) (bytes := (Y mq).2.1) (maxL := (P.1 mq).1) (ret := (Y mq).2.2) (n := b0) ⟨hx, hb, hml, hown, hts⟩ hM (va_cwS _ hts ?_ rfl rfl rfl ⟨c8, c9, c10⟩ hrm) hp rfl hln hsz hst2 hrs hd hfit) I.2.1 (fun H' lc h1 h2 h3 => go H' lc g1.1 g1.2 h1 h2 h3)
                    intro w hw
                    rcases List.mem_append.mp hw with q | q
                    · simp only [List.mem_cons, List.not_mem_nil, or_false] at q
                      rcases q with q | q | q <;> rw [q] <;> exact WS_good _ (by assumption)
                    · exact good_ws c4 w q
                  · exact call_back (a := (a.map (gv G)).toArray) (rest := rest.map (gv G)) (va_runSN (As := a.map (gv G)) (host := "EchoTune") (bytes := (Y mq).2.1) (maxL := (P.1 mq).1) (ret := (Y mq).2.2) (n := b0) ⟨hx, hb, hml, hown, hts⟩ hM ⟨va_cnB _ hts (good_ws c4) rfl rfl rfl (hK.2.2.2.2.2 _ c1) (hts _ c3) ⟨c8, c9, c10⟩ hrm, hts _ c2, trivial⟩ hp rfl hln hsz hst2 hrs hd hfit) I.2.1 (fun H' lc h1 h2 h3 => go H' lc g1.1 g1.2 h1 h2 h3)
              · simp only [] at e1 e2 e5
                subst e1 e2 e3
                obtain rfl : len = 3 := by simpa [isSw, ilen] using hlen
                obtain ⟨c1, c2, c3, c4, c5, c6, c7, c8, c9, c10, c11, c12⟩ := cl
                have hM := mt_of ih hv c7 ha oka
                refine call_back (a := (Value.ref (gad G (adr x)) :: l'.map (gv G)).toArray) (rest := rest.map (gv G)) (va_runV (As := l'.map (gv G)) (b := gad G (adr x)) (C := (Y mq).1.cls) (bytes := (Y mq).2.1) (maxL := (P.1 mq).1) (ret := (Y mq).2.2) (n := b0 - 1) ⟨hx, hb, hml, hown, hts⟩ hM ?_ ⟨PcT.blind, recv_ok hK I.1 e5 c6, fun U hU hW => ?_⟩ rfl ?_ hsz ?_ hrs hd hfit) I.2.1 (fun H' lc h1 h2 h3 => go H' lc g1.1 g1.2 h1 h2 h3)
                · refine cwV _ hts ?_ rfl rfl rfl ⟨rfl, c10, c11, c12⟩ ⟨?_, ?_⟩
                  · intro w hw
                    rcases List.mem_append.mp hw with q | q
                    · simp only [List.mem_cons, List.not_mem_nil, or_false] at q
                      rcases q with q | q | q | q <;> rw [q] <;> exact WS_good _ (by assumption)
                    · exact good_ws c5 w q
                  · exact (rmN_ok hR1 c8 hR2).1
                  · exact (rmN_ok (mc := 0) (ms := 0) hR1 c8 hR2).2
                · have := hpc U hU hW
                  rwa [List.map_cons, gv_a G e4] at this
                · rw [List.length_map]; simp only [List.length_cons] at s3; omega
                · show (List.map (gv G) ((Sum.inr (Sum.inr x) :: l').reverse ++ rest)) = _
                  simp [gv_a G e4]
