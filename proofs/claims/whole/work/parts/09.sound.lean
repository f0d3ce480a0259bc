set_option maxHeartbeats 4000000 in
/-- System.arraycopy over arrays of ints -/
theorem cp_sound {sx : Nat → String × Nat × String} {G : GE} {μ : AM} {own : String} {cc : ByteArray} {nL : Nat} {p : Program} {l : Launch} {e : Env} {R : Room} {s : State} {mI : MethodId} {args : Array Value} {below : List Frame} {meth : Method} {c : Code} {Q : State → Prop}
    (C : Cx sx G own cc nL p s mI args meth c) (hR1 : 1 ≤ R.frames) (hR3 : 8 + (nativeFrameWords "java/lang/System" "arraycopy" 5 + 11) ≤ R.locals) {pc idx : Nat} {ls : AL} {st st0 : List AV} {w : AW} {H : Heap} {locs : List Loc} {cells slots : Nat} {lsC : Array Slot}
    (I : Inv G μ s nL w H locs ls lsC st0) {sr t n tp sp : Int} (hs0 : 0 < sr) (ht0 : 0 < t) (hs1 : (shv μ w (adr sr)).1 = 100) (ht1 : (shv μ w (adr t)).1 = 100) (r1 : adr sr ≠ adr t) (r2 : 0 ≤ n) (r3 : 0 ≤ sp) (r4 : 0 ≤ tp) (r5 : sp + n ≤ (shv μ w (adr sr)).2) (r6 : tp + n ≤ (shv μ w (adr t)).2) (r7 : asum st ≤ 8)
    (on : okv (.inl n)) (otp : okv (.inl tp)) (osp : okv (.inl sp)) (hlink : (Cond.methodLink own idx arraycopyName).before args s = true) (hnat : (Cond.native arraycopyName).before args s = true) (hstat : (Cond.static arraycopyName).before args s = true) (hini : (Cond.initialized "java/lang/System").before args s = true) (hd : decode cc pc = .ok (.invokestatic idx, 3))
    (k : ∀ (H' : Heap) (lc : List Loc), HR G μ s (w.1, w.2.1, w.2.2.1, cpC w.2.2.2 (adr sr) sp (adr t) tp n) H' → va_S (gA G) s.heap H' lc → W p l e R s mI args below meth c H' lc cells slots Q (F0 mI (pc + 3) lsC (st.map (gv G)))) :
    W p l e R s mI args below meth c H locs cells slots Q (F0 mI pc lsC (gv G (.inl n) :: gv G (.inl tp) :: .ref (gad G (adr t)) :: gv G (.inl sp) :: .ref (gad G (adr sr)) :: st.map (gv G))) := by
  obtain ⟨hx, hb, hml, hown, hts, hlocks, hK⟩ := C
  obtain ⟨n, rfl⟩ := on
  obtain ⟨tp, rfl⟩ := otp
  obtain ⟨sp, rfl⟩ := osp
  rw [gv_i, gv_i, gv_i]
  have nn : ∀ z : Int32, 0 ≤ z.toInt → ¬ z < 0 ∧ z.toInt = (z.toNatClampNeg : Int) := by
    intro z hz
    refine ⟨fun q => ?_, ?_⟩
    · have : z.toInt < 0 := Int32.lt_iff_toInt_lt.mp q
      omega
    · show z.toInt = ((z.toInt.toNat : Nat) : Int)
      omega
  have h53 : 53 ≤ adr t := I.1.new53 (by rw [ht1]; decide)
  have hlt : adr t < w.1 := I.1.lt (by rw [ht1]; decide)
  obtain ⟨⟨cs, s1, s2, s3, s4, s5, s6⟩, s7, s8⟩ := (I.1.2.2.2.2.2 _ (I.1.lt (a := adr sr) (by rw [hs1]; decide))).2.2 (by rw [hs1]; decide)
  have hAt := (I.1.2.2.2.2.2 _ hlt).2.2 (by rw [ht1]; decide)
  obtain ⟨⟨cd, t1, t2, t3, t4, t5, t6⟩, t7, t8⟩ := id hAt
  rw [hs1] at s2 s5 s6 s8
  rw [ht1] at t2 t5 t6 t8
  obtain ⟨s9, s10⟩ := s5 (by decide)
  obtain ⟨t9, t10⟩ := t5 (by decide)
  obtain ⟨x1, k0, hk0, cm0, hkk0⟩ := s2
  obtain ⟨y1, k1, hk1, cm1, hkk1⟩ := t2
  intro T hT X
  obtain ⟨vm', X', step⟩ := X.arraycopy hx hown hlink hnat hstat hini (src := gad G (adr sr)) (dst := gad G (adr t)) (cs := cs) (cd := cd) (srcPos := sp) (destPos := tp) (n := n) (by rw [hT]; exact s1) (by rw [hT]; exact t1)
    x1 y1 s3 t3 hk0 hk1 hkk0 hkk1 (by decide) (nn sp r3).1 (nn tp r4).1 (nn n r2).1 (by rw [s4]; omega) (by rw [t4]; omega)
    (fun vm₁ _ i hi => by
      have hi2 := (nn n r2).2
      have hi3 := (nn sp r3).2
      have e : cs.slots.getD (sp.toNatClampNeg + i) .null = gv G (.inl (w.2.2.2 (adr sr) ((sp.toNatClampNeg + i : Nat) : Int))) := by
        rw [Array.getD_eq_getD_getElem?, s6 _ (by omega)]
        rfl
      rw [e]
      exact ⟨rfl, trivial⟩)
    (g := F0 mI pc lsC (.int n :: .int tp :: .ref (gad G (adr t)) :: .int sp :: .ref (gad G (adr sr)) :: st.map (gv G))) rfl (by show lsC.size = _; rw [hml]; exact I.2.2.1.1) (rest := st.map (gv G)) rfl (by rw [hb]; exact hd) hR1 (by show 2 * 0 + _ + _ ≤ _; rw [gv_sum]; omega)
  have hn2 := (nn n r2).2
  have hsp2 := (nn sp r3).2
  have htp2 := (nn tp r4).2
  have e1 : copied cs cd sp tp n = arrV cd.cls (shv μ w (adr t)).2 (fun j : Nat => gv G (tagv 0 (cpC w.2.2.2 (adr sr) sp.toInt (adr t) tp.toInt n.toInt (adr t) j))) := by
    have := va_copied (fun z : Int => gv G (tagv 0 z)) cs.cls cd.cls (n0 := (shv μ w (adr sr)).2) (n1 := (shv μ w (adr t)).2) (sp := sp.toNatClampNeg) (dp := tp.toNatClampNeg) (n := n.toNatClampNeg) (fun j : Nat => w.2.2.2 (adr sr) j) (fun j : Nat => w.2.2.2 (adr t) j) (by omega)
    rw [show copied cs cd sp tp n = cd.storeRun tp.toNatClampNeg (cs.stretch sp.toNatClampNeg n.toNatClampNeg) from rfl, s9, t9]
    refine this.trans ?_
    congr 1
    funext j
    simp only [va_cpy, cpC]
    by_cases q : tp.toNatClampNeg ≤ j ∧ j < tp.toNatClampNeg + n.toNatClampNeg
    · rw [if_pos q, if_pos ⟨trivial, by omega, by omega⟩]
      rw [show ((sp.toNatClampNeg + (j - tp.toNatClampNeg) : Nat) : Int) = sp.toInt + ((j : Int) - tp.toInt) by omega]
    · rw [if_neg q, if_neg (by rintro ⟨-, q1, q2⟩; exact q ⟨by omega, by omega⟩)]
  rw [e1] at X' step
  have hl : gad G (adr t) < H.size := (Array.getElem?_eq_some_iff.mp t1).1
  generalize hce : arrV cd.cls (shv μ w (adr t)).2 (fun j : Nat => gv G (tagv 0 (cpC w.2.2.2 (adr sr) sp.toInt (adr t) tp.toInt n.toInt (adr t) j))) = ce at X' step
  have hheap : ((T.setVm vm').setCell (gad G (adr t)) ce).heap = H.setIfInBounds (gad G (adr t)) ce := by rw [← hT]; rfl
  have oq : ∀ q : Nat, q ≠ gad G (adr t) → (H.setIfInBounds (gad G (adr t)) ce)[q]? = H[q]? := fun q hq => by simp [Array.getElem?_setIfInBounds, Ne.symm hq]
  have oa : (H.setIfInBounds (gad G (adr t)) ce)[gad G (adr t)]? = some ce := by simp [Array.getElem?_setIfInBounds, hl]
  have hH : HR G μ s (w.1, w.2.1, w.2.2.1, cpC w.2.2.2 (adr sr) sp.toInt (adr t) tp.toInt n.toInt) (H.setIfInBounds (gad G (adr t)) ce) := by
    refine I.1.upd h53 hlt rfl rfl (fun b' hb' k => by show cpC _ _ _ _ _ _ _ _ = _; rw [cpC, if_neg (fun q => hb' q.1)]) (by simp) oq ?_
    have hs : shv μ ((w.1, w.2.1, w.2.2.1, cpC w.2.2.2 (adr sr) sp.toInt (adr t) tp.toInt n.toInt) : AW) (adr t) = shv μ w (adr t) := rfl
    refine ⟨fun q => ?_, fun q => ?_, fun _ => ?_⟩
    · rw [hs, ht1] at q; omega
    · rw [hs, ht1] at q; omega
    · rw [hs]
      refine ⟨⟨ce, oa, ?_, ?_, ?_, ?_, ?_⟩, t7, ?_⟩
      · rw [← hce]; exact ⟨(fun k h => by cases h), k1, hk1, cm1, by rw [ht1]; exact hkk1⟩
      · rw [← hce]; intro q; cases q
      · rw [← hce, arrV_size]
      · intro _
        rw [← hce, ht1]
        exact ⟨rfl, t10⟩
      · intro j hj
        rw [← hce, arrV_read _ _ hj, ht1]
        rfl
      · intro j
        rw [ht1]
        show okv (tagv 0 (cpC _ _ _ _ _ _ _ _))
        rw [cpC]
        split
        · exact s8 _
        · exact t8 _
  have hS : va_S (gA G) s.heap (H.setIfInBounds (gad G (adr t)) ce) (locs ++ (cs.stretch sp.toNatClampNeg n.toNatClampNeg).zipIdx.map fun q => (⟨gad G (adr t), tp.toNatClampNeg + q.2⟩ : Loc)) := by
    refine ⟨by simp; exact I.2.1.1, fun q g1 g2 => ?_, fun q hq => ?_⟩
    · rw [oq q (fun e => g2 (by rw [e]; exact gad_new h53))]
      exact I.2.1.2.1 q g1 g2
    · rcases List.mem_append.mp hq with h | h
      · exact I.2.1.2.2 q h
      · obtain ⟨z, -, hz⟩ := List.mem_map.mp h
        rw [← hz]
        exact gad_new h53
  obtain ⟨t', a1, b1⟩ := k _ _ hH hS _ hheap X'
  exact ⟨t', step t' a1, b1⟩
set_option maxHeartbeats 4000000 in
set_option maxRecDepth 100000 in
/-- ONE INSTRUCTION: where the plain machine goes on, the real one does -/
theorem step_sound {sx : Nat → String × Nat × String} {G : GE} {μ : AM} {own : String} {cc : ByteArray} {nL : Nat} {init : Bool} {ret : Option FieldType} {p : Program} {l : Launch} {e : Env} {R : Room} {s : State} {mI : MethodId} {args : Array Value} {below : List Frame} {meth : Method} {c : Code} {Q : State → Prop}
    (C : Cx sx G own cc nL p s mI args meth c) (hin : init = true → meth.name = "<init>") (hR1 : 1 ≤ R.frames) (hR2 : 20 ≤ R.locals) (hR3 : 8 + (nativeFrameWords "java/lang/System" "arraycopy" 5 + 11) ≤ R.locals) {pc : Nat} {ri : RI} {ls : AL} {st : List AV} {w : AW} {H : Heap} {locs : List Loc} {cells slots : Nat} {lsC : Array Slot}
    (ok : RIok sx own init ret cc pc ri) (I : Inv G μ s nL w H locs ls lsC st) {KN : Nat → AL → List AV → AW → Prop} {KR : Option AV → Prop} {KC : Nat → List AV → List AV → Prop}
    (h : stp μ ri pc ls st w KN KR KC False)
    (room : ∀ pc' ls' st' w', KN pc' ls' st' w' → cells + w'.1 ≤ R.cells + w.1 ∧ slots + w'.2.1 ≤ R.slots + w.2.1)
    (kn : ∀ pc' ls' st' w' H' locs' cells' slots' lsC', KN pc' ls' st' w' → Inv G μ s nL w' H' locs' ls' lsC' st' → cells' + w.1 = cells + w'.1 → slots' + w.2.1 = slots + w'.2.1 → W p l e R s mI args below meth c H' locs' cells' slots' Q (F0 mI pc' lsC' (st'.map (gv G))))
    (kr : ∀ r, KR r → RetAt ri st r → W p l e R s mI args below meth c H locs cells slots Q (F0 mI pc lsC (st.map (gv G))))
    (kc : ∀ mq a rest, KC mq a rest → CallAt μ w ri st mq a rest → W p l e R s mI args below meth c H locs cells slots Q (F0 mI pc lsC (st.map (gv G)))) :
    W p l e R s mI args below meth c H locs cells slots Q (F0 mI pc lsC (st.map (gv G))) := by
  obtain ⟨hx, hb, hml, hown, hts, hlocks, hK⟩ := C
  obtain ⟨⟨len, hd, hlen⟩, lk⟩ := ok
  obtain ⟨i, a, b, v⟩ := ri
  have hst := I.2.2.2
  have hL := I.2.2.1
  cases i
  case iconst n =>
    obtain rfl : len = 1 := by simpa [isSw, ilen] using hlen
    refine lv_iconst hx hb hd rfl ?_
    exact kn _ _ _ _ _ _ _ _ _ h (I.stk (ok1 hst ⟨Int32.ofInt n, lk.symm⟩ (fun _ q => q))) rfl rfl
  case bipush n =>
    obtain rfl : len = 2 := by simpa [isSw, ilen] using hlen
    refine lv_bipush hx hb hd lk.1 ?_
    exact kn _ _ _ _ _ _ _ _ _ h (I.stk (ok1 hst ⟨Int32.ofInt v, lk.2.symm⟩ (fun _ q => q))) rfl rfl
  case sipush n =>
    obtain rfl : len = 3 := by simpa [isSw, ilen] using hlen
    refine lv_sipush hx hb hd lk.1 ?_
    exact kn _ _ _ _ _ _ _ _ _ h (I.stk (ok1 hst ⟨Int32.ofInt v, lk.2.symm⟩ (fun _ q => q))) rfl rfl
  case lconst n =>
    obtain rfl : len = 1 := by simpa [isSw, ilen] using hlen
    have lk : v = ((n : Nat) : Int) := lk
    have hn : v = (Int64.ofNat (n : Nat)).toInt := by
      rw [lk]
      have h2 := n.isLt
      rcases (show (n : Nat) = 0 ∨ (n : Nat) = 1 by omega) with q | q <;> rw [q] <;> rfl
    refine lv_lconst hx hb hd rfl ?_
    have := kn _ _ _ _ _ _ _ _ _ h (I.stk (ok1 hst ⟨_, hn⟩ (fun _ q => q))) rfl rfl
    rw [List.map_cons, hn, gv_l] at this
    exact this
  case ldc idx =>
    obtain rfl : len = 2 := by simpa [isSw, ilen] using hlen
    have h : KN (pc + 2) ls (tagv a v :: st) w := h
    rcases lk with ⟨rfl, h1, h2⟩ | ⟨rfl, k, hk, rfl, h1, h2⟩
    · refine lv_ldc hx hb hown (hts _ h2) hd ?_
      exact kn _ _ _ _ _ _ _ _ _ h (I.stk (ok1 hst ⟨Int32.ofInt v, h1.symm⟩ (fun _ q => q))) rfl rfl
    · have hz := hK.2.1 k hk
      rw [h1, h2] at hz
      refine va_ldcS hx hb hown hz hd ?_
      have := kn _ _ _ _ _ _ _ _ _ h (I.stk (ok1 hst trivial (fun _ q => q))) rfl rfl
      rw [List.map_cons, show tagv ((2 : Nat) : Int) ((k : Int) + 2) = .inr (.inr ((k : Int) + 2)) from rfl, gv_a G (by omega)] at this
      rw [show gad G (adr ((k : Int) + 2)) = G.2.1 (1 + k) by unfold gad adr; rw [show ((k : Int) + 2 - 1).toNat = 1 + k by omega, if_pos (by omega)]] at this
      exact this
  case ldc_w idx =>
    obtain rfl : len = 3 := by simpa [isSw, ilen] using hlen
    refine lv_ldcw hx hb hown (hts _ lk.2) hd ?_
    exact kn _ _ _ _ _ _ _ _ _ h (I.stk (ok1 hst ⟨Int32.ofInt v, lk.1.symm⟩ (fun _ q => q))) rfl rfl
  case ldc2_w idx =>
    obtain rfl : len = 3 := by simpa [isSw, ilen] using hlen
    refine lv_ldc2 hx hb hown (hts _ lk.2) hd ?_
    exact kn _ _ _ _ _ _ _ _ _ h (I.stk (ok1 hst ⟨Int64.ofInt v, lk.1.symm⟩ (fun _ q => q))) rfl rfl
  case aconst_null =>
    obtain rfl : len = 1 := by simpa [isSw, ilen] using hlen
    refine lv_null hx hb hd ?_
    have := kn _ _ _ _ _ _ _ _ _ h (I.stk (ok1 hst trivial (fun _ q => q))) rfl rfl
    rw [List.map_cons, gv_n] at this
    exact this
  case iload k =>
    obtain rfl : len = 2 := by simpa [isSw, ilen] using hlen
    obtain ⟨x, q1, h⟩ := jI h
    obtain ⟨q2, q3⟩ := hL.2.2.2 _ _ q1
    refine lv_iload hx hb hd q2 ?_
    exact kn _ _ _ _ _ _ _ _ _ h (I.stk (ok1 hst q3 (fun _ q => q))) rfl rfl
  case iload_n k =>
    obtain rfl : len = 1 := by simpa [isSw, ilen] using hlen
    obtain ⟨x, q1, h⟩ := jI h
    obtain ⟨q2, q3⟩ := hL.2.2.2 _ _ q1
    refine lv_iload_n hx hb hd lk q2 ?_
    exact kn _ _ _ _ _ _ _ _ _ h (I.stk (ok1 hst q3 (fun _ q => q))) rfl rfl
  case lload k =>
    obtain rfl : len = 2 := by simpa [isSw, ilen] using hlen
    obtain ⟨x, q1, h⟩ := jJ h
    obtain ⟨q2, q3⟩ := hL.2.2.2 _ _ q1
    refine lv_lload hx hb hd q2 ?_
    exact kn _ _ _ _ _ _ _ _ _ h (I.stk (ok1 hst q3 (fun _ q => q))) rfl rfl
  case lload_n k =>
    obtain rfl : len = 1 := by simpa [isSw, ilen] using hlen
    obtain ⟨x, q1, h⟩ := jJ h
    obtain ⟨q2, q3⟩ := hL.2.2.2 _ _ q1
    refine lv_lload_n hx hb hd lk q2 ?_
    exact kn _ _ _ _ _ _ _ _ _ h (I.stk (ok1 hst q3 (fun _ q => q))) rfl rfl
  case aload k =>
    obtain rfl : len = 2 := by simpa [isSw, ilen] using hlen
    obtain ⟨x, q1, h⟩ := jA h
    obtain ⟨q2, q3⟩ := hL.2.2.2 _ _ q1
    have := kn _ _ _ _ _ _ _ _ _ h (I.stk (ok1 hst q3 (fun _ q => q))) rfl rfl
    rw [List.map_cons] at this
    rcases gv_ref G x with g | ⟨y, g⟩
    · rw [g] at this q2
      exact lv_aloadN hx hb hd q2 this
    · rw [g] at this q2
      exact lv_aload hx hb hd q2 this
  case istore k =>
    obtain rfl : len = 2 := by simpa [isSw, ilen] using hlen
    obtain ⟨x, st, rfl, g⟩ := iI h
    clear h
    have h := g
    clear g
    obtain ⟨hk, h⟩ := iIf h
    rw [hL.2.2.1] at hk
    rw [List.map_cons]
    exact lv_istore hx hb hd hL.has hk rfl (fun ls' g => kn _ _ _ _ _ _ _ _ _ h ⟨I.1, I.2.1, hL.st1 hk (hst _ List.mem_cons_self) g, fun u q => hst u (List.mem_cons_of_mem _ q)⟩ rfl rfl)
  case lstore k =>
    obtain rfl : len = 2 := by simpa [isSw, ilen] using hlen
    obtain ⟨x, st, rfl, g⟩ := iJ h
    clear h
    have h := g
    clear g
    obtain ⟨hk, h⟩ := iIf h
    rw [hL.2.2.1] at hk
    rw [List.map_cons]
    exact lv_lstore hx hb hd hL.has hk rfl (fun ls' g => kn _ _ _ _ _ _ _ _ _ h ⟨I.1, I.2.1, hL.st2 hk (hst _ List.mem_cons_self) g, fun u q => hst u (List.mem_cons_of_mem _ q)⟩ rfl rfl)
  case astore k =>
    obtain rfl : len = 2 := by simpa [isSw, ilen] using hlen
    obtain ⟨x, st, rfl, g⟩ := iA h
    clear h
    have h := g
    clear g
    obtain ⟨hk, h⟩ := iIf h
    rw [hL.2.2.1] at hk
    rw [List.map_cons]
    have g0 : ∀ ls' : Array Slot, lv_has ls' nL ((k, gv G (.inr (.inr x))) :: (lvOf G ls).filter (fun q => !(q.1 == k) && !(q.1 + 1 == k && q.2.category == 2))) → W p l e R s mI args below meth c H locs cells slots Q (F0 mI (pc + 2) ls' (st.map (gv G))) := fun ls' g => kn _ _ _ _ _ _ _ _ _ h ⟨I.1, I.2.1, hL.st1 hk trivial g, fun u q => hst u (List.mem_cons_of_mem _ q)⟩ rfl rfl
    rcases gv_ref G x with g | ⟨y, g⟩
    · rw [g] at g0 ⊢
      exact lv_astoreN hx hb hd hL.has hk rfl g0
    · rw [g] at g0 ⊢
      exact lv_astore hx hb hd hL.has hk rfl g0
  case aload_n k =>
    obtain rfl : len = 1 := by simpa [isSw, ilen] using hlen
    obtain ⟨x, q1, h⟩ := jA h
    obtain ⟨q2, q3⟩ := hL.2.2.2 _ _ q1
    have := kn _ _ _ _ _ _ _ _ _ h (I.stk (ok1 hst q3 (fun _ q => q))) rfl rfl
    rw [List.map_cons] at this
    rcases gv_ref G x with g | ⟨y, g⟩
    · rw [g] at this q2
      exact lv_aload_nN hx hb hd lk q2 this
    · rw [g] at this q2
      exact lv_aload_n hx hb hd lk q2 this
  case istore_n k =>
    obtain rfl : len = 1 := by simpa [isSw, ilen] using hlen
    obtain ⟨x, st, rfl, g⟩ := iI h
    clear h
    have h := g
    clear g
    obtain ⟨hk, h⟩ := iIf h
    rw [hL.2.2.1] at hk
    rw [List.map_cons]
    exact lv_istore_n hx hb hd lk hL.has hk rfl (fun ls' g => kn _ _ _ _ _ _ _ _ _ h ⟨I.1, I.2.1, hL.st1 hk (hst _ List.mem_cons_self) g, fun u q => hst u (List.mem_cons_of_mem _ q)⟩ rfl rfl)
  case lstore_n k =>
    obtain rfl : len = 1 := by simpa [isSw, ilen] using hlen
    obtain ⟨x, st, rfl, g⟩ := iJ h
    clear h
    have h := g
    clear g
    obtain ⟨hk, h⟩ := iIf h
    rw [hL.2.2.1] at hk
    rw [List.map_cons]
    exact lv_lstore_n hx hb hd lk hL.has hk rfl (fun ls' g => kn _ _ _ _ _ _ _ _ _ h ⟨I.1, I.2.1, hL.st2 hk (hst _ List.mem_cons_self) g, fun u q => hst u (List.mem_cons_of_mem _ q)⟩ rfl rfl)
  case astore_n k =>
    obtain rfl : len = 1 := by simpa [isSw, ilen] using hlen
    obtain ⟨x, st, rfl, g⟩ := iA h
    clear h
    have h := g
    clear g
    obtain ⟨hk, h⟩ := iIf h
    rw [hL.2.2.1] at hk
    rw [List.map_cons]
    have g0 : ∀ ls' : Array Slot, lv_has ls' nL ((a, gv G (.inr (.inr x))) :: (lvOf G ls).filter (fun q => !(q.1 == a) && !(q.1 + 1 == a && q.2.category == 2))) → W p l e R s mI args below meth c H locs cells slots Q (F0 mI (pc + 1) ls' (st.map (gv G))) := fun ls' g => kn _ _ _ _ _ _ _ _ _ h ⟨I.1, I.2.1, hL.st1 hk trivial g, fun u q => hst u (List.mem_cons_of_mem _ q)⟩ rfl rfl
    rcases gv_ref G x with g | ⟨y, g⟩
    · rw [g] at g0 ⊢
      exact lv_astore_nN hx hb hd lk hL.has hk rfl g0
    · rw [g] at g0 ⊢
      exact lv_astore_n hx hb hd lk hL.has hk rfl g0
  case iinc k n =>
    obtain rfl : len = 3 := by simpa [isSw, ilen] using hlen
    obtain ⟨x, q1, h⟩ := jI h
    obtain ⟨hk, h⟩ := iIf h
    rw [hL.2.2.1] at hk
    obtain ⟨q2, ⟨i, rfl⟩⟩ := hL.2.2.2 _ _ q1
    obtain ⟨j, hj⟩ := List.getElem?_of_mem (lvOf_mem (G := G) q1)
    rw [gv_i] at hj
    have e1 : w32 (i.toInt + n) = (i + Int32.ofInt n).toInt := by simp [w32]
    rw [e1] at h
    exact lv_iinc hx hb hd hL.has hj rfl hk rfl (fun ls' g => kn _ _ _ _ _ _ _ _ _ h ⟨I.1, I.2.1, hL.st1 hk ⟨_, rfl⟩ (by rw [gv_i]; exact g), hst⟩ rfl rfl)
  case iadd =>
    obtain rfl : len = 1 := by simpa [isSw, ilen] using hlen
    obtain ⟨x, y, st, rfl, g⟩ := iII h
    clear h
    have h := g
    clear g
    obtain ⟨j, rfl⟩ := hst _ List.mem_cons_self
    obtain ⟨i, rfl⟩ := hst _ (List.mem_cons_of_mem _ List.mem_cons_self)
    rw [e_add] at h
    rw [List.map_cons, List.map_cons, gv_i, gv_i]
    refine lv_iadd hx hb hd ?_
    have := kn _ _ _ _ _ _ _ _ _ h (I.stk (ok1 hst ⟨_, rfl⟩ (fun _ q => List.mem_cons_of_mem _ (List.mem_cons_of_mem _ q)))) rfl rfl
    rw [List.map_cons, gv_i] at this
    exact this
  case isub =>
    obtain rfl : len = 1 := by simpa [isSw, ilen] using hlen
    obtain ⟨x, y, st, rfl, g⟩ := iII h
    clear h
    have h := g
    clear g
    obtain ⟨j, rfl⟩ := hst _ List.mem_cons_self
    obtain ⟨i, rfl⟩ := hst _ (List.mem_cons_of_mem _ List.mem_cons_self)
    rw [e_sub] at h
    rw [List.map_cons, List.map_cons, gv_i, gv_i]
    refine lv_isub hx hb hd ?_
    have := kn _ _ _ _ _ _ _ _ _ h (I.stk (ok1 hst ⟨_, rfl⟩ (fun _ q => List.mem_cons_of_mem _ (List.mem_cons_of_mem _ q)))) rfl rfl
    rw [List.map_cons, gv_i] at this
    exact this
  case imul =>
    obtain rfl : len = 1 := by simpa [isSw, ilen] using hlen
    obtain ⟨x, y, st, rfl, g⟩ := iII h
    clear h
    have h := g
    clear g
    obtain ⟨j, rfl⟩ := hst _ List.mem_cons_self
    obtain ⟨i, rfl⟩ := hst _ (List.mem_cons_of_mem _ List.mem_cons_self)
    rw [e_mul] at h
    rw [List.map_cons, List.map_cons, gv_i, gv_i]
    refine lv_imul hx hb hd ?_
    have := kn _ _ _ _ _ _ _ _ _ h (I.stk (ok1 hst ⟨_, rfl⟩ (fun _ q => List.mem_cons_of_mem _ (List.mem_cons_of_mem _ q)))) rfl rfl
    rw [List.map_cons, gv_i] at this
    exact this
  case iand =>
    obtain rfl : len = 1 := by simpa [isSw, ilen] using hlen
    obtain ⟨x, y, st, rfl, g⟩ := iII h
    clear h
    have h := g
    clear g
    obtain ⟨j, rfl⟩ := hst _ List.mem_cons_self
    obtain ⟨i, rfl⟩ := hst _ (List.mem_cons_of_mem _ List.mem_cons_self)
    rw [e_op] at h
    rw [List.map_cons, List.map_cons, gv_i, gv_i]
    refine lv_iand hx hb hd ?_
    have := kn _ _ _ _ _ _ _ _ _ h (I.stk (ok1 hst ⟨_, rfl⟩ (fun _ q => List.mem_cons_of_mem _ (List.mem_cons_of_mem _ q)))) rfl rfl
    rw [List.map_cons, gv_i] at this
    exact this
  case ior =>
    obtain rfl : len = 1 := by simpa [isSw, ilen] using hlen
    obtain ⟨x, y, st, rfl, g⟩ := iII h
    clear h
    have h := g
    clear g
    obtain ⟨j, rfl⟩ := hst _ List.mem_cons_self
    obtain ⟨i, rfl⟩ := hst _ (List.mem_cons_of_mem _ List.mem_cons_self)
    rw [e_op] at h
    rw [List.map_cons, List.map_cons, gv_i, gv_i]
    refine lv_ior hx hb hd ?_
    have := kn _ _ _ _ _ _ _ _ _ h (I.stk (ok1 hst ⟨_, rfl⟩ (fun _ q => List.mem_cons_of_mem _ (List.mem_cons_of_mem _ q)))) rfl rfl
    rw [List.map_cons, gv_i] at this
    exact this
  case ixor =>
    obtain rfl : len = 1 := by simpa [isSw, ilen] using hlen
    obtain ⟨x, y, st, rfl, g⟩ := iII h
    clear h
    have h := g
    clear g
    obtain ⟨j, rfl⟩ := hst _ List.mem_cons_self
    obtain ⟨i, rfl⟩ := hst _ (List.mem_cons_of_mem _ List.mem_cons_self)
    rw [e_op] at h
    rw [List.map_cons, List.map_cons, gv_i, gv_i]
    refine lv_ixor hx hb hd ?_
    have := kn _ _ _ _ _ _ _ _ _ h (I.stk (ok1 hst ⟨_, rfl⟩ (fun _ q => List.mem_cons_of_mem _ (List.mem_cons_of_mem _ q)))) rfl rfl
    rw [List.map_cons, gv_i] at this
    exact this
  case ishl =>
    obtain rfl : len = 1 := by simpa [isSw, ilen] using hlen
    obtain ⟨x, y, st, rfl, g⟩ := iII h
    clear h
    have h := g
    clear g
    obtain ⟨j, rfl⟩ := hst _ List.mem_cons_self
    obtain ⟨i, rfl⟩ := hst _ (List.mem_cons_of_mem _ List.mem_cons_self)
    rw [e_op] at h
    rw [List.map_cons, List.map_cons, gv_i, gv_i]
    refine lv_ishl hx hb hd ?_
    have := kn _ _ _ _ _ _ _ _ _ h (I.stk (ok1 hst ⟨_, rfl⟩ (fun _ q => List.mem_cons_of_mem _ (List.mem_cons_of_mem _ q)))) rfl rfl
    rw [List.map_cons, gv_i] at this
    exact this
  case ishr =>
    obtain rfl : len = 1 := by simpa [isSw, ilen] using hlen
    obtain ⟨x, y, st, rfl, g⟩ := iII h
    clear h
    have h := g
    clear g
    obtain ⟨j, rfl⟩ := hst _ List.mem_cons_self
    obtain ⟨i, rfl⟩ := hst _ (List.mem_cons_of_mem _ List.mem_cons_self)
    rw [e_op] at h
    rw [List.map_cons, List.map_cons, gv_i, gv_i]
    refine lv_ishr hx hb hd ?_
    have := kn _ _ _ _ _ _ _ _ _ h (I.stk (ok1 hst ⟨_, rfl⟩ (fun _ q => List.mem_cons_of_mem _ (List.mem_cons_of_mem _ q)))) rfl rfl
    rw [List.map_cons, gv_i] at this
    exact this
  case iushr =>
    obtain rfl : len = 1 := by simpa [isSw, ilen] using hlen
    obtain ⟨x, y, st, rfl, g⟩ := iII h
    clear h
    have h := g
    clear g
    obtain ⟨j, rfl⟩ := hst _ List.mem_cons_self
    obtain ⟨i, rfl⟩ := hst _ (List.mem_cons_of_mem _ List.mem_cons_self)
    rw [e_op] at h
    rw [List.map_cons, List.map_cons, gv_i, gv_i]
    refine lv_iushr hx hb hd rfl ?_
    have := kn _ _ _ _ _ _ _ _ _ h (I.stk (ok1 hst ⟨_, rfl⟩ (fun _ q => List.mem_cons_of_mem _ (List.mem_cons_of_mem _ q)))) rfl rfl
    rw [List.map_cons, gv_i] at this
    exact this
  case ladd =>
    obtain rfl : len = 1 := by simpa [isSw, ilen] using hlen
    obtain ⟨x, y, st, rfl, g⟩ := iJJ h
    clear h
    have h := g
    clear g
    obtain ⟨j, rfl⟩ := hst _ List.mem_cons_self
    obtain ⟨i, rfl⟩ := hst _ (List.mem_cons_of_mem _ List.mem_cons_self)
    rw [l_add] at h
    rw [List.map_cons, List.map_cons, gv_l, gv_l]
    refine lv_ladd hx hb hd ?_
    have := kn _ _ _ _ _ _ _ _ _ h (I.stk (ok1 hst ⟨_, rfl⟩ (fun _ q => List.mem_cons_of_mem _ (List.mem_cons_of_mem _ q)))) rfl rfl
    rw [List.map_cons, gv_l] at this
    exact this
  case lsub =>
    obtain rfl : len = 1 := by simpa [isSw, ilen] using hlen
    obtain ⟨x, y, st, rfl, g⟩ := iJJ h
    clear h
    have h := g
    clear g
    obtain ⟨j, rfl⟩ := hst _ List.mem_cons_self
    obtain ⟨i, rfl⟩ := hst _ (List.mem_cons_of_mem _ List.mem_cons_self)
    rw [l_sub] at h
    rw [List.map_cons, List.map_cons, gv_l, gv_l]
    refine lv_lsub hx hb hd ?_
    have := kn _ _ _ _ _ _ _ _ _ h (I.stk (ok1 hst ⟨_, rfl⟩ (fun _ q => List.mem_cons_of_mem _ (List.mem_cons_of_mem _ q)))) rfl rfl
    rw [List.map_cons, gv_l] at this
    exact this
  case lmul =>
    obtain rfl : len = 1 := by simpa [isSw, ilen] using hlen
    obtain ⟨x, y, st, rfl, g⟩ := iJJ h
    clear h
    have h := g
    clear g
    obtain ⟨j, rfl⟩ := hst _ List.mem_cons_self
    obtain ⟨i, rfl⟩ := hst _ (List.mem_cons_of_mem _ List.mem_cons_self)
    rw [l_mul] at h
    rw [List.map_cons, List.map_cons, gv_l, gv_l]
    refine lv_lmul hx hb hd ?_
    have := kn _ _ _ _ _ _ _ _ _ h (I.stk (ok1 hst ⟨_, rfl⟩ (fun _ q => List.mem_cons_of_mem _ (List.mem_cons_of_mem _ q)))) rfl rfl
    rw [List.map_cons, gv_l] at this
    exact this
  case land =>
    obtain rfl : len = 1 := by simpa [isSw, ilen] using hlen
    obtain ⟨x, y, st, rfl, g⟩ := iJJ h
    clear h
    have h := g
    clear g
    obtain ⟨j, rfl⟩ := hst _ List.mem_cons_self
    obtain ⟨i, rfl⟩ := hst _ (List.mem_cons_of_mem _ List.mem_cons_self)
    rw [l_op] at h
    rw [List.map_cons, List.map_cons, gv_l, gv_l]
    refine lv_land hx hb hd ?_
    have := kn _ _ _ _ _ _ _ _ _ h (I.stk (ok1 hst ⟨_, rfl⟩ (fun _ q => List.mem_cons_of_mem _ (List.mem_cons_of_mem _ q)))) rfl rfl
    rw [List.map_cons, gv_l] at this
    exact this
  case lor =>
    obtain rfl : len = 1 := by simpa [isSw, ilen] using hlen
    obtain ⟨x, y, st, rfl, g⟩ := iJJ h
    clear h
    have h := g
    clear g
    obtain ⟨j, rfl⟩ := hst _ List.mem_cons_self
    obtain ⟨i, rfl⟩ := hst _ (List.mem_cons_of_mem _ List.mem_cons_self)
    rw [l_op] at h
    rw [List.map_cons, List.map_cons, gv_l, gv_l]
    refine lv_lor hx hb hd ?_
    have := kn _ _ _ _ _ _ _ _ _ h (I.stk (ok1 hst ⟨_, rfl⟩ (fun _ q => List.mem_cons_of_mem _ (List.mem_cons_of_mem _ q)))) rfl rfl
    rw [List.map_cons, gv_l] at this
    exact this
  case lxor =>
    obtain rfl : len = 1 := by simpa [isSw, ilen] using hlen
    obtain ⟨x, y, st, rfl, g⟩ := iJJ h
    clear h
    have h := g
    clear g
    obtain ⟨j, rfl⟩ := hst _ List.mem_cons_self
    obtain ⟨i, rfl⟩ := hst _ (List.mem_cons_of_mem _ List.mem_cons_self)
    rw [l_op] at h
    rw [List.map_cons, List.map_cons, gv_l, gv_l]
    refine lv_lxor hx hb hd ?_
    have := kn _ _ _ _ _ _ _ _ _ h (I.stk (ok1 hst ⟨_, rfl⟩ (fun _ q => List.mem_cons_of_mem _ (List.mem_cons_of_mem _ q)))) rfl rfl
    rw [List.map_cons, gv_l] at this
    exact this
  case lcmp =>
    obtain rfl : len = 1 := by simpa [isSw, ilen] using hlen
    obtain ⟨x, y, st, rfl, g⟩ := iJJ h
    clear h
    have h := g
    clear g
    obtain ⟨j, rfl⟩ := hst _ List.mem_cons_self
    obtain ⟨i, rfl⟩ := hst _ (List.mem_cons_of_mem _ List.mem_cons_self)
    rw [e_cmp] at h
    rw [List.map_cons, List.map_cons, gv_l, gv_l]
    refine W.lcmp hx hb hd ?_
    have := kn _ _ _ _ _ _ _ _ _ h (I.stk (ok1 hst ⟨_, rfl⟩ (fun _ q => List.mem_cons_of_mem _ (List.mem_cons_of_mem _ q)))) rfl rfl
    rw [List.map_cons, gv_i] at this
    exact this
  case idiv =>
    obtain rfl : len = 1 := by simpa [isSw, ilen] using hlen
    obtain ⟨x, y, st, rfl, g⟩ := iII h
    clear h
    have h := g
    clear g
    obtain ⟨j, rfl⟩ := hst _ List.mem_cons_self
    obtain ⟨i, rfl⟩ := hst _ (List.mem_cons_of_mem _ List.mem_cons_self)
    obtain ⟨hne, h⟩ := iIfN h
    have hne : ¬ j = 0 := fun q => hne (by rw [q]; rfl)
    rw [e_div] at h
    rw [List.map_cons, List.map_cons, gv_i, gv_i]
    refine lv_idiv hx hb hd hne ?_
    have := kn _ _ _ _ _ _ _ _ _ h (I.stk (ok1 hst ⟨_, rfl⟩ (fun _ q => List.mem_cons_of_mem _ (List.mem_cons_of_mem _ q)))) rfl rfl
    rw [List.map_cons, gv_i] at this
    exact this
  case irem =>
    obtain rfl : len = 1 := by simpa [isSw, ilen] using hlen
    obtain ⟨x, y, st, rfl, g⟩ := iII h
    clear h
    have h := g
    clear g
    obtain ⟨j, rfl⟩ := hst _ List.mem_cons_self
    obtain ⟨i, rfl⟩ := hst _ (List.mem_cons_of_mem _ List.mem_cons_self)
    obtain ⟨hne, h⟩ := iIfN h
    have hne : ¬ j = 0 := fun q => hne (by rw [q]; rfl)
    rw [e_rem] at h
    rw [List.map_cons, List.map_cons, gv_i, gv_i]
    refine lv_irem hx hb hd hne ?_
    have := kn _ _ _ _ _ _ _ _ _ h (I.stk (ok1 hst ⟨_, rfl⟩ (fun _ q => List.mem_cons_of_mem _ (List.mem_cons_of_mem _ q)))) rfl rfl
    rw [List.map_cons, gv_i] at this
    exact this
  case ldiv =>
    obtain rfl : len = 1 := by simpa [isSw, ilen] using hlen
    obtain ⟨x, y, st, rfl, g⟩ := iJJ h
    clear h
    have h := g
    clear g
    obtain ⟨j, rfl⟩ := hst _ List.mem_cons_self
    obtain ⟨i, rfl⟩ := hst _ (List.mem_cons_of_mem _ List.mem_cons_self)
    obtain ⟨hne, h⟩ := iIfN h
    have hne : ¬ j = 0 := fun q => hne (by rw [q]; rfl)
    rw [l_div] at h
    rw [List.map_cons, List.map_cons, gv_l, gv_l]
    refine lv_ldiv hx hb hd hne ?_
    have := kn _ _ _ _ _ _ _ _ _ h (I.stk (ok1 hst ⟨_, rfl⟩ (fun _ q => List.mem_cons_of_mem _ (List.mem_cons_of_mem _ q)))) rfl rfl
    rw [List.map_cons, gv_l] at this
    exact this
  case lrem =>
    obtain rfl : len = 1 := by simpa [isSw, ilen] using hlen
    obtain ⟨x, y, st, rfl, g⟩ := iJJ h
    clear h
    have h := g
    clear g
    obtain ⟨j, rfl⟩ := hst _ List.mem_cons_self
    obtain ⟨i, rfl⟩ := hst _ (List.mem_cons_of_mem _ List.mem_cons_self)
    obtain ⟨hne, h⟩ := iIfN h
    have hne : ¬ j = 0 := fun q => hne (by rw [q]; rfl)
    rw [l_rem] at h
    rw [List.map_cons, List.map_cons, gv_l, gv_l]
    refine lv_lrem hx hb hd hne ?_
    have := kn _ _ _ _ _ _ _ _ _ h (I.stk (ok1 hst ⟨_, rfl⟩ (fun _ q => List.mem_cons_of_mem _ (List.mem_cons_of_mem _ q)))) rfl rfl
    rw [List.map_cons, gv_l] at this
    exact this
  case lshl =>
    obtain rfl : len = 1 := by simpa [isSw, ilen] using hlen
    obtain ⟨y, st, rfl, g⟩ := iI h
    clear h
    have h := g
    clear g
    obtain ⟨x, st, rfl, g⟩ := iJ h
    clear h
    have h := g
    clear g
    obtain ⟨j, rfl⟩ := hst _ List.mem_cons_self
    obtain ⟨i, rfl⟩ := hst _ (List.mem_cons_of_mem _ List.mem_cons_self)
    rw [Int64.ofInt_toInt, Int32.ofInt_toInt] at h
    rw [List.map_cons, List.map_cons, gv_i, gv_l]
    refine lv_lshl hx hb hd rfl ?_
    have := kn _ _ _ _ _ _ _ _ _ h (I.stk (ok1 hst ⟨_, rfl⟩ (fun _ q => List.mem_cons_of_mem _ (List.mem_cons_of_mem _ q)))) rfl rfl
    rw [List.map_cons, gv_l] at this
    exact this
  case lshr =>
    obtain rfl : len = 1 := by simpa [isSw, ilen] using hlen
    obtain ⟨y, st, rfl, g⟩ := iI h
    clear h
    have h := g
    clear g
    obtain ⟨x, st, rfl, g⟩ := iJ h
    clear h
    have h := g
    clear g
    obtain ⟨j, rfl⟩ := hst _ List.mem_cons_self
    obtain ⟨i, rfl⟩ := hst _ (List.mem_cons_of_mem _ List.mem_cons_self)
    rw [Int64.ofInt_toInt, Int32.ofInt_toInt] at h
    rw [List.map_cons, List.map_cons, gv_i, gv_l]
    refine lv_lshr hx hb hd rfl ?_
    have := kn _ _ _ _ _ _ _ _ _ h (I.stk (ok1 hst ⟨_, rfl⟩ (fun _ q => List.mem_cons_of_mem _ (List.mem_cons_of_mem _ q)))) rfl rfl
    rw [List.map_cons, gv_l] at this
    exact this
  case ineg =>
    obtain rfl : len = 1 := by simpa [isSw, ilen] using hlen
    obtain ⟨x, st, rfl, g⟩ := iI h
    clear h
    have h := g
    clear g
    obtain ⟨i, rfl⟩ := hst _ List.mem_cons_self
    rw [e_neg] at h
    rw [List.map_cons, gv_i]
    refine lv_ineg hx hb hd ?_
    have := kn _ _ _ _ _ _ _ _ _ h (I.stk (ok1 hst ⟨_, rfl⟩ (fun _ q => List.mem_cons_of_mem _ q))) rfl rfl
    rw [List.map_cons, gv_i] at this
    exact this
  case i2l =>
    obtain rfl : len = 1 := by simpa [isSw, ilen] using hlen
    obtain ⟨x, st, rfl, g⟩ := iI h
    clear h
    have h := g
    clear g
    obtain ⟨i, rfl⟩ := hst _ List.mem_cons_self
    rw [← Int32.toInt_toInt64] at h
    rw [List.map_cons, gv_i]
    refine lv_i2l hx hb hd rfl ?_
    have := kn _ _ _ _ _ _ _ _ _ h (I.stk (ok1 hst ⟨_, rfl⟩ (fun _ q => List.mem_cons_of_mem _ q))) rfl rfl
    rw [List.map_cons, gv_l] at this
    exact this
  case l2i =>
    obtain rfl : len = 1 := by simpa [isSw, ilen] using hlen
    obtain ⟨x, st, rfl, g⟩ := iJ h
    clear h
    have h := g
    clear g
    obtain ⟨i, rfl⟩ := hst _ List.mem_cons_self
    rw [e_l2i] at h
    rw [List.map_cons, gv_l]
    refine lv_l2i hx hb hd rfl ?_
    have := kn _ _ _ _ _ _ _ _ _ h (I.stk (ok1 hst ⟨_, rfl⟩ (fun _ q => List.mem_cons_of_mem _ q))) rfl rfl
    rw [List.map_cons, gv_i] at this
    exact this
  case i2b =>
    obtain rfl : len = 1 := by simpa [isSw, ilen] using hlen
    obtain ⟨x, st, rfl, g⟩ := iI h
    clear h
    have h := g
    clear g
    obtain ⟨i, rfl⟩ := hst _ List.mem_cons_self
    rw [e_i2b] at h
    rw [List.map_cons, gv_i]
    refine lv_i2b hx hb hd rfl ?_
    have := kn _ _ _ _ _ _ _ _ _ h (I.stk (ok1 hst ⟨_, rfl⟩ (fun _ q => List.mem_cons_of_mem _ q))) rfl rfl
    rw [List.map_cons, gv_i] at this
    exact this
  case i2c =>
    obtain rfl : len = 1 := by simpa [isSw, ilen] using hlen
    obtain ⟨x, st, rfl, g⟩ := iI h
    clear h
    have h := g
    clear g
    obtain ⟨i, rfl⟩ := hst _ List.mem_cons_self
    rw [e_i2c] at h
    rw [List.map_cons, gv_i]
    refine lv_i2c hx hb hd rfl ?_
    have := kn _ _ _ _ _ _ _ _ _ h (I.stk (ok1 hst ⟨_, rfl⟩ (fun _ q => List.mem_cons_of_mem _ q))) rfl rfl
    rw [List.map_cons, gv_i] at this
    exact this
  case dup =>
    obtain rfl : len = 1 := by simpa [isSw, ilen] using hlen
    obtain ⟨x, st, rfl, g⟩ := iV h
    clear h
    have h := g
    clear g
    obtain ⟨hc, h⟩ := iIf h
    exact lv_dup hx hb hd (by rw [gv_cat]; exact hc) (kn _ _ _ _ _ _ _ _ _ h (I.stk (ok1 hst (hst _ List.mem_cons_self) (fun _ q => q))) rfl rfl)
  case pop =>
    obtain rfl : len = 1 := by simpa [isSw, ilen] using hlen
    obtain ⟨x, st, rfl, g⟩ := iV h
    clear h
    have h := g
    clear g
    obtain ⟨hc, h⟩ := iIf h
    exact lv_pop hx hb hd (by rw [gv_cat]; exact hc) (kn _ _ _ _ _ _ _ _ _ h (I.stk (fun u q => hst u (List.mem_cons_of_mem _ q))) rfl rfl)
  case dup2 =>
    obtain rfl : len = 1 := by simpa [isSw, ilen] using hlen
    obtain ⟨x, st, rfl, g⟩ := iV h
    clear h
    have h := g
    clear g
    obtain ⟨y, st, rfl, g⟩ := iV h
    clear h
    have h := g
    clear g
    obtain ⟨hc, h⟩ := iIf h
    exact lv_dup2_11 hx hb hd (by rw [gv_cat]; exact hc.1) (by rw [gv_cat]; exact hc.2) (kn _ _ _ _ _ _ _ _ _ h (I.stk (ok1 (ok1 hst (hst _ (List.mem_cons_of_mem _ List.mem_cons_self)) (fun _ q => q)) (hst _ List.mem_cons_self) (fun _ q => q))) rfl rfl)
  case goto off =>
    obtain rfl : len = 3 := by simpa [isSw, ilen] using hlen
    exact lv_goto hx hb hd lk (kn _ _ _ _ _ _ _ _ _ h I rfl rfl)
  case ifCond cd off =>
    obtain rfl : len = 3 := by simpa [isSw, ilen] using hlen
    obtain ⟨x, st, rfl, g⟩ := iI h
    clear h
    have h := g
    clear g
    obtain ⟨i, rfl⟩ := hst _ List.mem_cons_self
    have go : ∀ pc', KN pc' ls st w → W p l e R s mI args below meth c H locs cells slots Q (F0 mI pc' lsC (st.map (gv G))) := fun pc' h => kn _ _ _ _ _ _ _ _ _ h (I.stk (fun u q => hst u (List.mem_cons_of_mem _ q))) rfl rfl
    rw [List.map_cons, gv_i]
    have z0 : i = 0 ↔ i.toInt = 0 := by rw [← Int32.toInt_inj]; rfl
    have z1 : i < 0 ↔ i.toInt < 0 := by rw [Int32.lt_iff_toInt_lt]; rfl
    have z2 : 0 < i ↔ 0 < i.toInt := by rw [Int32.lt_iff_toInt_lt]; rfl
    have z3 : 0 ≤ i ↔ ¬ i.toInt < 0 := by rw [Int32.le_iff_toInt_le]; show 0 ≤ i.toInt ↔ _; omega
    have z4 : i ≤ 0 ↔ ¬ 0 < i.toInt := by rw [Int32.le_iff_toInt_le]; show i.toInt ≤ 0 ↔ _; omega
    cases cd <;> simp only [cnd] at h
    · exact lv_if_eq hx hb hd lk (fun q => go _ (by rwa [if_pos (z0.mp q)] at h)) (fun q => go _ (by rwa [if_neg (fun r => q (z0.mpr r))] at h))
    · exact lv_if_ne hx hb hd lk (fun q => go _ (by rwa [if_neg (fun r => q (z0.mpr r))] at h)) (fun q => go _ (by rwa [if_pos (z0.mp q)] at h))
    · exact lv_if_lt hx hb hd lk (fun q => go _ (by rwa [if_pos (z1.mp q)] at h)) (fun q => go _ (by rwa [if_neg (fun r => q (z1.mpr r))] at h))
    · exact lv_if_ge hx hb hd lk (fun q => go _ (by rwa [if_neg (z3.mp q)] at h)) (fun q => go _ (by rwa [if_pos (Decidable.byContradiction fun r => q (z3.mpr r))] at h))
    · exact lv_if_gt hx hb hd lk (fun q => go _ (by rwa [if_pos (z2.mp q)] at h)) (fun q => go _ (by rwa [if_neg (fun r => q (z2.mpr r))] at h))
    · exact lv_if_le hx hb hd lk (fun q => go _ (by rwa [if_neg (z4.mp q)] at h)) (fun q => go _ (by rwa [if_pos (Decidable.byContradiction fun r => q (z4.mpr r))] at h))
  case if_icmp cd off =>
    obtain rfl : len = 3 := by simpa [isSw, ilen] using hlen
    obtain ⟨x, y, st, rfl, g⟩ := iII h
    clear h
    have h := g
    clear g
    obtain ⟨j, rfl⟩ := hst _ List.mem_cons_self
    obtain ⟨i, rfl⟩ := hst _ (List.mem_cons_of_mem _ List.mem_cons_self)
    have go : ∀ pc', KN pc' ls st w → W p l e R s mI args below meth c H locs cells slots Q (F0 mI pc' lsC (st.map (gv G))) := fun pc' h => kn _ _ _ _ _ _ _ _ _ h (I.stk (fun u q => hst u (List.mem_cons_of_mem _ (List.mem_cons_of_mem _ q)))) rfl rfl
    rw [List.map_cons, List.map_cons, gv_i, gv_i]
    have z0 : i = j ↔ i.toInt = j.toInt := by rw [← Int32.toInt_inj]
    have z1 : i < j ↔ i.toInt < j.toInt := Int32.lt_iff_toInt_lt
    have z2 : j < i ↔ j.toInt < i.toInt := Int32.lt_iff_toInt_lt
    have z3 : j ≤ i ↔ ¬ i.toInt < j.toInt := by rw [Int32.le_iff_toInt_le]; omega
    have z4 : i ≤ j ↔ ¬ j.toInt < i.toInt := by rw [Int32.le_iff_toInt_le]; omega
    cases cd <;> simp only [cnd] at h
    · exact lv_icmp_eq hx hb hd lk (fun q => go _ (by rwa [if_pos (z0.mp q)] at h)) (fun q => go _ (by rwa [if_neg (fun r => q (z0.mpr r))] at h))
    · exact lv_icmp_ne hx hb hd lk (fun q => go _ (by rwa [if_neg (fun r => q (z0.mpr r))] at h)) (fun q => go _ (by rwa [if_pos (z0.mp q)] at h))
    · exact lv_icmp_lt hx hb hd lk (fun q => go _ (by rwa [if_pos (z1.mp q)] at h)) (fun q => go _ (by rwa [if_neg (fun r => q (z1.mpr r))] at h))
    · exact lv_icmp_ge hx hb hd lk (fun q => go _ (by rwa [if_neg (z3.mp q)] at h)) (fun q => go _ (by rwa [if_pos (Decidable.byContradiction fun r => q (z3.mpr r))] at h))
    · exact lv_icmp_gt hx hb hd lk (fun q => go _ (by rwa [if_pos (z2.mp q)] at h)) (fun q => go _ (by rwa [if_neg (fun r => q (z2.mpr r))] at h))
    · exact lv_icmp_le hx hb hd lk (fun q => go _ (by rwa [if_neg (z4.mp q)] at h)) (fun q => go _ (by rwa [if_pos (Decidable.byContradiction fun r => q (z4.mpr r))] at h))
  case ifnull off =>
    obtain rfl : len = 3 := by simpa [isSw, ilen] using hlen
    obtain ⟨x, st, rfl, g⟩ := iA h
    clear h
    have h := g
    clear g
    have go : ∀ pc', KN pc' ls st w → W p l e R s mI args below meth c H locs cells slots Q (F0 mI pc' lsC (st.map (gv G))) := fun pc' h => kn _ _ _ _ _ _ _ _ _ h (I.stk (fun u q => hst u (List.mem_cons_of_mem _ q))) rfl rfl
    rw [List.map_cons]
    by_cases q : x = 0
    · rw [if_pos q] at h
      rw [q, gv_n]
      exact lv_ifnullN hx hb hd lk (go _ h)
    · rw [if_neg q] at h
      obtain ⟨q1, h⟩ := iIf h
      rw [gv_a G q1]
      exact lv_ifnull hx hb hd (go _ h)
  case ifnonnull off =>
    obtain rfl : len = 3 := by simpa [isSw, ilen] using hlen
    obtain ⟨x, st, rfl, g⟩ := iA h
    clear h
    have h := g
    clear g
    have go : ∀ pc', KN pc' ls st w → W p l e R s mI args below meth c H locs cells slots Q (F0 mI pc' lsC (st.map (gv G))) := fun pc' h => kn _ _ _ _ _ _ _ _ _ h (I.stk (fun u q => hst u (List.mem_cons_of_mem _ q))) rfl rfl
    rw [List.map_cons]
    by_cases q : x = 0
    · rw [if_pos q] at h
      rw [q, gv_n]
      exact lv_ifnonnullN hx hb hd (go _ h)
    · rw [if_neg q] at h
      obtain ⟨q1, h⟩ := iIf h
      rw [gv_a G q1]
      exact lv_ifnonnull hx hb hd lk (go _ h)
  case return_ =>
    exact kr _ (iIf h).2 (Or.inr (Or.inr ⟨rfl, (iIf h).1, rfl⟩))
  case ireturn =>
    obtain ⟨x, st', e1, g⟩ := iI h
    obtain ⟨e2, g⟩ := iIf g
    obtain ⟨e3, g⟩ := iIf g
    exact kr _ g (Or.inl ⟨rfl, x, by rw [e1, e2], rfl, e3⟩)
  case lreturn =>
    obtain ⟨x, st', e1, g⟩ := iJ h
    obtain ⟨e2, g⟩ := iIf g
    exact kr _ g (Or.inr (Or.inl ⟨rfl, x, by rw [e1, e2], rfl⟩))
  case tableswitch df lo hi offs =>
    obtain ⟨x, st, rfl, g⟩ := iI h
    
    clear h
    
    have h := g
    
    clear g
    obtain ⟨i, rfl⟩ := hst _ List.mem_cons_self
    obtain ⟨k1, k2, k3⟩ := lk
    have go : ∀ pc', KN pc' ls st w → W p l e R s mI args below meth c H locs cells slots Q (F0 mI pc' lsC (st.map (gv G))) := fun pc' h => kn _ _ _ _ _ _ _ _ _ h (I.stk (fun u q => hst u (List.mem_cons_of_mem _ q))) rfl rfl
    rw [List.map_cons, gv_i]
    rcases swi_inv h with ⟨g1, g2⟩ | ⟨o, g1, g2, g3, g4, g5⟩
    · exact lv_tableOut hx hb hd (by rw [k1]; omega) (by omega) (go _ g2)
    · have := k3 o g4
      exact lv_tableIn hx hb hd (by omega) (by rw [k1]; omega) (by rw [← Array.getElem?_toList]; exact g3) (by omega) (go _ g5)
  case lookupswitch df ps =>
    obtain ⟨x, st, rfl, g⟩ := iI h
    
    clear h
    
    have h := g
    
    clear g
    obtain ⟨i, rfl⟩ := hst _ List.mem_cons_self
    obtain ⟨k1, k2, k3⟩ := lk
    have go : ∀ pc', KN pc' ls st w → W p l e R s mI args below meth c H locs cells slots Q (F0 mI pc' lsC (st.map (gv G))) := fun pc' h => kn _ _ _ _ _ _ _ _ _ h (I.stk (fun u q => hst u (List.mem_cons_of_mem _ q))) rfl rfl
    rw [List.map_cons, gv_i]
    obtain ⟨g1, g2⟩ := swl_inv h k3 k2
    exact lv_lookup hx hb hd k1 rfl (by omega) (go _ g2)
  case getfield idx =>
    obtain rfl : len = 3 := by simpa [isSw, ilen] using hlen
    obtain ⟨x, st, rfl, g⟩ := iA h
    clear h
    have h := g
    clear g
    obtain ⟨hx0, h⟩ := iIf h
    obtain ⟨hsh, h⟩ := iIf h
    have hlt : adr x < w.1 := I.1.lt (by rw [hsh]; rcases lk with q | q | q <;> omega)
    have hCR := I.1.2.2.2.2.2 _ hlt
    rw [List.map_cons, gv_a G hx0]
    rcases lk with ⟨ha, hb2, hv, hlk⟩ | ⟨ha, hb2, hv, hlk⟩ | ⟨ha, hb2, hv, hlk⟩
    · obtain ⟨⟨cell, q1, q2, q3, q4⟩, q5⟩ := hCR.1 (by rw [hsh]; exact ha)
      rw [hsh] at q2 q4 q5
      obtain ⟨hS, hfc, kC, hkC, hkind⟩ := hK.1 a ha
      obtain ⟨cf, kf, fi, f, hi, hsl⟩ := hS b hb2
      refine W.getf hx hb hown (hts _ hlk) hi (u_facts hfc hkC (u_lays hts (f_ws a ha) hb2) hi).1 q1 (by rw [q3]; exact fun q => by cases q) (v := gv G (tagv (fk a b) (cv μ w (adr x) b))) (by rw [hsl]; exact q4 b hb2) rfl rfl hd ?_
      subst hv
      exact kn _ _ _ _ _ _ _ _ _ h (I.stk (ok1 hst (q5 b hb2) (fun _ q => List.mem_cons_of_mem _ q))) rfl rfl
    · obtain ⟨t1, t2, t3, t4⟩ := hCR.2.1 (by rw [hsh]; exact ha)
      obtain ⟨cf, k, fi, f, cell, g1, g2, g3, g4, g5, g6⟩ := t2
      subst hb2 hv
      refine W.getf hx hb hown (hts _ hlk) g1 g2 g3 g4 (v := gv G (.inr (.inr (cv μ w (adr x) 0)))) g5 rfl rfl hd ?_
      exact kn _ _ _ _ _ _ _ _ _ h (I.stk (ok1 hst trivial (fun _ q => List.mem_cons_of_mem _ q))) rfl rfl
    · obtain ⟨t1, t2, t3, t4⟩ := hCR.2.1 (by rw [hsh]; exact ha)
      obtain ⟨cf, k, fi, f, cell, g1, g2, g3, g4, g5, g6⟩ := t3
      subst hb2 hv
      refine W.getf hx hb hown (hts _ hlk) g1 g2 g3 g4 (v := .int 0) g5 rfl rfl hd ?_
      have h : KN (pc + 3) ls (.inl (cv μ w (adr x) 1) :: st) w := h
      rw [t4] at h
      exact kn _ _ _ _ _ _ _ _ _ h (I.stk (ok1 hst ⟨0, rfl⟩ (fun _ q => List.mem_cons_of_mem _ q))) rfl rfl
  case putfield idx =>
    obtain rfl : len = 3 := by simpa [isSw, ilen] using hlen
    obtain ⟨ha, hb2, hv, hlk, hfin⟩ := lk
    subst hv
    obtain ⟨y, st, rfl, g⟩ := iV h
    clear h
    have h := g
    clear g
    obtain ⟨x, st, rfl, g⟩ := iA h
    clear h
    have h := g
    clear g
    obtain ⟨hx0, h⟩ := iIf h
    obtain ⟨hsh, h⟩ := iIf h
    obtain ⟨hav, h⟩ := iIf h
    obtain ⟨hnp, h⟩ := iIfN h
    have hlt : adr x < w.1 := I.1.lt (by rw [hsh]; omega)
    have h53 : 53 ≤ adr x := I.1.new53 (by rw [hsh]; omega)
    have hO := (I.1.2.2.2.2.2 _ hlt).1 (by rw [hsh]; exact ha)
    rw [hsh] at hO
    obtain ⟨cell, q1, q2, q3, q4⟩ := id hO.1
    obtain ⟨p1, p2, p3⟩ := put_ok (G := G) ha hb2 hav
    have oky := hst _ List.mem_cons_self
    have hKn := hK.1 a ha
    have hap := f_apart hts ha hKn
    obtain ⟨hS, hfc, kC, hkC, hkind⟩ := id hKn
    obtain ⟨cf, kf, fi, f, hi, hsl⟩ := hS b hb2
    have fin : ∀ (H' : Heap) (lc : List Loc), H'[gad G (adr x)]? = some (cell.setSlot f.slot (gv G y)) → H'.size = H.size → (∀ q, q ≠ gad G (adr x) → H'[q]? = H[q]?) → va_S (gA G) s.heap H' lc → W p l e R s mI args below meth c H' lc cells slots Q (F0 mI (pc + 3) lsC (st.map (gv G))) := by
      intro H' lc e1 e2 e3 e4
      refine kn _ _ _ _ _ _ _ _ _ h ⟨?_, e4, hL, fun u q => hst u (List.mem_cons_of_mem _ (List.mem_cons_of_mem _ q))⟩ rfl rfl
      refine I.1.upd h53 hlt rfl rfl (fun b' hb' k => by show upC _ _ _ _ _ _ = _; rw [upC, if_neg (fun q => hb' q.1)]) e2 e3 ?_
      have hs : shv μ (wC w (adr x) b (aval y)) (adr x) = shv μ w (adr x) := rfl
      refine ⟨fun _ => ?_, fun q => ?_, fun q => ?_⟩
      · rw [hs, hsh]
        exact hO.set hap hb2 (by rw [← p1]; exact oky) q1 (by rw [← p1, ← hsl]; exact e1) (fun j _ => cv_upd hnp j)
      · rw [hs, hsh] at q; omega
      · rw [hs, hsh] at q; omega
    rw [List.map_cons, List.map_cons, gv_a G hx0]
    have hlay := hts _ (f_ws a ha _ (u_in_lay hb2))
    unfold u_lay at hlay
    rcases hfin with hf | ⟨hf, hi1, hi2⟩
    · rw [if_neg (by rw [hf]; decide)] at hlay
      have hst2 := (u_facts hfc hkC (u_lays hts (f_ws a ha) hb2) hi).1
      have h6 := u_store hfc hkC hkind hlay hi (f_ty a ha b hb2) p2 p3
      refine W.putK hx hb (f := f) ⟨hown, hts _ hlk, ⟨_, _, _, hi⟩, hst2⟩ (by rw [q2]; exact h6) q1 q3 (by rw [hsl]; exact k2_hasslot (q4 b hb2)) rfl rfl hd fun H' e1 e2 e3 => ?_
      exact fin H' _ e1 e2 e3 (I.2.1.put e2 e3 (gad_new h53))
    · rw [if_pos hf] at hlay
      have hst2 := (u_facts hfc hkC (u_lays hts (f_ws a ha) hb2) hi).1
      have hcf : mI.cls = cf := by
        obtain ⟨_, _, c', _, _, _, -, -, hf', -, -, -, hown2, -⟩ := Cond.laysFinal_spec hlay
        have e1 : c' = cf := by have := hi.symm.trans hf'; simp at this; exact this.1.symm
        have hown2 : s.vm.findClass (cN a) = some c' := hown2
        rw [hi2] at hown2
        rw [← e1]; exact Option.some.inj (hown.symm.trans hown2)
      have h6 := u_fits hfc hkC hkind (Or.inr hlay) hi (f_ty a ha b hb2) p2 p3
      refine W.putFinK hx hb hown (hts _ hlk) hi hst2 hcf (hin hi1) (by rw [q2]; exact h6) q1 q3 (by rw [hsl]; exact k2_hasslot (q4 b hb2)) rfl rfl hd fun H' e1 e2 e3 => ?_
      exact fin H' _ e1 e2 e3 (I.2.1.put e2 e3 (gad_new h53))
  case getstatic idx =>
    obtain rfl : len = 3 := by simpa [isSw, ilen] using hlen
    rcases lk with ⟨rfl, rfl, h2⟩ | ⟨rfl, rfl, h2⟩
    · refine va_gets hx hb hK.2.2.1 I.2.1 hown (hts _ h2) (fun _ q => q) hd ?_
      exact kn _ _ _ _ _ _ _ _ _ h (I.stk (ok1 hst ⟨1, rfl⟩ (fun _ q => q))) rfl rfl
    · refine va_gets hx hb hK.2.2.2.1 I.2.1 hown (hts _ h2) (fun _ q => q) hd ?_
      exact kn _ _ _ _ _ _ _ _ _ h (I.stk (ok1 hst trivial (fun _ q => q))) rfl rfl
  case iaload =>
    obtain rfl : len = 1 := by simpa [isSw, ilen] using hlen
    obtain ⟨i, st, rfl, g⟩ := iI h
    clear h
    have h := g
    clear g
    obtain ⟨x, st, rfl, g⟩ := iA h
    clear h
    have h := g
    clear g
    obtain ⟨hx0, hc, h⟩ := iAr h
    obtain ⟨hix, h⟩ := iX h
    obtain ⟨j, rfl⟩ := hst _ List.mem_cons_self
    obtain ⟨z1, z2, z3⟩ := ix_in hix
    have hlt : adr x < w.1 := I.1.lt (by rcases hc with q | q | q <;> rw [q] <;> decide)
    obtain ⟨⟨cell, a1, a2, a3, a4, a5, a6⟩, a7, a8⟩ := (I.1.2.2.2.2.2 _ hlt).2.2 (by rcases hc with q | q | q <;> rw [q] <;> decide)
    have hkd : akd (shv μ w (adr x)).1 = 0 := by rcases hc with q | q | q <;> rw [q] <;> rfl
    have hty : aty (shv μ w (adr x)).1 = .int := by rcases hc with q | q | q <;> rw [q] <;> first | exact Or.inl rfl | exact Or.inr rfl | rfl
    rw [hkd] at a6 a8
    rw [List.map_cons, List.map_cons, gv_i, gv_a G hx0]
    have a9 := a6 _ z3
    rw [z2] at a9
    have go := kn _ _ _ _ _ _ _ _ _ h (I.stk (ok1 hst (a8 _) (fun _ q => List.mem_cons_of_mem _ (List.mem_cons_of_mem _ q)))) rfl rfl
    rw [hty] at a2
    exact W.iald hx hb a1 a2 a3 (by rw [a4]; exact z1) a9 rfl rfl hd go
  case laload =>
    obtain rfl : len = 1 := by simpa [isSw, ilen] using hlen
    obtain ⟨i, st, rfl, g⟩ := iI h
    clear h
    have h := g
    clear g
    obtain ⟨x, st, rfl, g⟩ := iA h
    clear h
    have h := g
    clear g
    obtain ⟨hx0, hc, h⟩ := iAr h
    obtain ⟨hix, h⟩ := iX h
    obtain ⟨j, rfl⟩ := hst _ List.mem_cons_self
    obtain ⟨z1, z2, z3⟩ := ix_in hix
    have hlt : adr x < w.1 := I.1.lt (by rcases hc with q | q | q <;> rw [q] <;> decide)
    obtain ⟨⟨cell, a1, a2, a3, a4, a5, a6⟩, a7, a8⟩ := (I.1.2.2.2.2.2 _ hlt).2.2 (by rcases hc with q | q | q <;> rw [q] <;> decide)
    have hkd : akd (shv μ w (adr x)).1 = 1 := by rcases hc with q | q | q <;> rw [q] <;> rfl
    have hty : aty (shv μ w (adr x)).1 = .long := by rcases hc with q | q | q <;> rw [q] <;> first | exact Or.inl rfl | exact Or.inr rfl | rfl
    rw [hkd] at a6 a8
    rw [List.map_cons, List.map_cons, gv_i, gv_a G hx0]
    have a9 := a6 _ z3
    rw [z2] at a9
    have go := kn _ _ _ _ _ _ _ _ _ h (I.stk (ok1 hst (a8 _) (fun _ q => List.mem_cons_of_mem _ (List.mem_cons_of_mem _ q)))) rfl rfl
    rw [hty] at a2
    exact W.lald hx hb a1 a2 a3 (by rw [a4]; exact z1) a9 rfl rfl hd go
  case baload =>
    obtain rfl : len = 1 := by simpa [isSw, ilen] using hlen
    obtain ⟨i, st, rfl, g⟩ := iI h
    clear h
    have h := g
    clear g
    obtain ⟨x, st, rfl, g⟩ := iA h
    clear h
    have h := g
    clear g
    obtain ⟨hx0, hc, h⟩ := iAr h
    obtain ⟨hix, h⟩ := iX h
    obtain ⟨j, rfl⟩ := hst _ List.mem_cons_self
    obtain ⟨z1, z2, z3⟩ := ix_in hix
    have hlt : adr x < w.1 := I.1.lt (by rcases hc with q | q | q <;> rw [q] <;> decide)
    obtain ⟨⟨cell, a1, a2, a3, a4, a5, a6⟩, a7, a8⟩ := (I.1.2.2.2.2.2 _ hlt).2.2 (by rcases hc with q | q | q <;> rw [q] <;> decide)
    have hkd : akd (shv μ w (adr x)).1 = 0 := by rcases hc with q | q | q <;> rw [q] <;> rfl
    have hty : aty (shv μ w (adr x)).1 = .byte ∨ aty (shv μ w (adr x)).1 = .boolean := by rcases hc with q | q | q <;> rw [q] <;> first | exact Or.inl rfl | exact Or.inr rfl | rfl
    rw [hkd] at a6 a8
    rw [List.map_cons, List.map_cons, gv_i, gv_a G hx0]
    have a9 := a6 _ z3
    rw [z2] at a9
    have go := kn _ _ _ _ _ _ _ _ _ h (I.stk (ok1 hst (a8 _) (fun _ q => List.mem_cons_of_mem _ (List.mem_cons_of_mem _ q)))) rfl rfl
    rcases hty with hty | hty
    · rw [hty] at a2
      exact W.bald hx hb a1 a2 a3 (by rw [a4]; exact z1) a9 rfl rfl hd go
    · rw [hty] at a2
      exact W.zald hx hb a1 a2 a3 (by rw [a4]; exact z1) a9 rfl rfl hd go
  case aaload =>
    obtain rfl : len = 1 := by simpa [isSw, ilen] using hlen
    obtain ⟨i, st, rfl, g⟩ := iI h
    clear h
    have h := g
    clear g
    obtain ⟨x, st, rfl, g⟩ := iA h
    clear h
    have h := g
    clear g
    obtain ⟨hx0, hc, h⟩ := iAr h
    obtain ⟨hix, h⟩ := iX h
    obtain ⟨j, rfl⟩ := hst _ List.mem_cons_self
    obtain ⟨z1, z2, z3⟩ := ix_in hix
    have hlt : adr x < w.1 := I.1.lt (by rcases hc with q | q | q <;> rw [q] <;> decide)
    obtain ⟨⟨cell, a1, a2, a3, a4, a5, a6⟩, a7, a8⟩ := (I.1.2.2.2.2.2 _ hlt).2.2 (by rcases hc with q | q | q <;> rw [q] <;> decide)
    have hkd : akd (shv μ w (adr x)).1 = 2 := by rcases hc with q | q | q <;> rw [q] <;> rfl
    have hty : aty (shv μ w (adr x)).1 = .object "EchoTune$State" := by rcases hc with q | q | q <;> rw [q] <;> first | exact Or.inl rfl | exact Or.inr rfl | rfl
    rw [hkd] at a6 a8
    rw [List.map_cons, List.map_cons, gv_i, gv_a G hx0]
    have a9 := a6 _ z3
    rw [z2] at a9
    have go := kn _ _ _ _ _ _ _ _ _ h (I.stk (ok1 hst (a8 _) (fun _ q => List.mem_cons_of_mem _ (List.mem_cons_of_mem _ q)))) rfl rfl
    rw [hty] at a2
    exact W.aald hx hb a1 a2 rfl a3 (by rw [a4]; exact z1) a9 rfl rfl hd go
  case iastore =>
    obtain rfl : len = 1 := by simpa [isSw, ilen] using hlen
    obtain ⟨y, st, rfl, g⟩ := iI h
    clear h
    have h := g
    clear g
    obtain ⟨i, st, rfl, g⟩ := iI h
    clear h
    have h := g
    clear g
    obtain ⟨x, st, rfl, g⟩ := iA h
    clear h
    have h := g
    clear g
    obtain ⟨hx0, hc, h⟩ := iAr h
    obtain ⟨hix, h⟩ := iX h
    obtain ⟨j, rfl⟩ := hst (.inl i) (List.mem_cons_of_mem _ List.mem_cons_self)
    obtain ⟨z1, z2, z3⟩ := ix_in hix
    have hlt : adr x < w.1 := I.1.lt (by rcases hc with q | q | q <;> rw [q] <;> decide)
    have h53 : 53 ≤ adr x := I.1.new53 (by rcases hc with q | q | q <;> rw [q] <;> decide)
    have hc2 : (shv μ w (adr x)).1 < 105 := by rcases hc with q | q | q <;> rw [q] <;> decide
    have hA := (I.1.2.2.2.2.2 _ hlt).2.2 (by rcases hc with q | q | q <;> rw [q] <;> decide)
    have hkd : akd (shv μ w (adr x)).1 = 0 := by rcases hc with q | q | q <;> rw [q] <;> rfl
    obtain ⟨⟨cell, a1, a2, a3, a4, a5, a6⟩, a7, a8⟩ := id hA
    have fin : ∀ (H' : Heap) (lc : List Loc), KN (pc + 1) ls st (wC w (adr x) j.toInt y) → okv (tagv 0 y) → H'[gad G (adr x)]? = some (cell.setSlot j.toNatClampNeg (gv G (tagv 0 y))) → H'.size = H.size → (∀ q, q ≠ gad G (adr x) → H'[q]? = H[q]?) → va_S (gA G) s.heap H' lc → W p l e R s mI args below meth c H' lc cells slots Q (F0 mI (pc + 1) lsC (st.map (gv G))) := by
      intro H' lc h oy e1 e2 e3 e4
      refine kn _ _ _ _ _ _ _ _ _ h ⟨?_, e4, hL, fun u q => hst u (List.mem_cons_of_mem _ (List.mem_cons_of_mem _ (List.mem_cons_of_mem _ q)))⟩ rfl rfl
      refine I.1.upd h53 hlt rfl rfl (fun b' hb' k => by show upC _ _ _ _ _ _ = _; rw [upC, if_neg (fun q => hb' q.1)]) e2 e3 ?_
      have hs : shv μ (wC w (adr x) j.toInt y) (adr x) = shv μ w (adr x) := rfl
      refine ⟨fun q => ?_, fun q => ?_, fun _ => ?_⟩
      · rw [hs] at q; rcases hc with r | r | r <;> rw [r] at q <;> omega
      · rw [hs] at q; rcases hc with r | r | r <;> rw [r] at q <;> omega
      · rw [hs]
        exact hA.set hc2 z3 (by rw [hkd]; exact oy) a1 (by rw [hkd]; exact e1) (fun k => by show upC _ _ _ _ _ _ = _; rw [upC, z2]; simp)
    
    have hty : aty (shv μ w (adr x)).1 = .int := by rcases hc with q | q | q <;> rw [q] <;> rfl
    rw [hty] at a2
    have oy := hst _ List.mem_cons_self
    rw [List.map_cons, List.map_cons, List.map_cons, gv_i, gv_a G hx0]
    exact W.iast hx hb a1 a2 a3 (by rw [a4]; exact z1) rfl rfl hd (fun H' e1 e2 e3 => fin H' _ h oy e1 e2 e3 (I.2.1.put e2 e3 (gad_new h53)))
  case lastore =>
    obtain rfl : len = 1 := by simpa [isSw, ilen] using hlen
    obtain ⟨y, st, rfl, g⟩ := iJ h
    clear h
    have h := g
    clear g
    obtain ⟨i, st, rfl, g⟩ := iI h
    clear h
    have h := g
    clear g
    obtain ⟨x, st, rfl, g⟩ := iA h
    clear h
    have h := g
    clear g
    obtain ⟨hx0, hc, h⟩ := iAr h
    obtain ⟨hix, h⟩ := iX h
    obtain ⟨j, rfl⟩ := hst (.inl i) (List.mem_cons_of_mem _ List.mem_cons_self)
    obtain ⟨z1, z2, z3⟩ := ix_in hix
    have hlt : adr x < w.1 := I.1.lt (by rcases hc with q | q | q <;> rw [q] <;> decide)
    have h53 : 53 ≤ adr x := I.1.new53 (by rcases hc with q | q | q <;> rw [q] <;> decide)
    have hc2 : (shv μ w (adr x)).1 < 105 := by rcases hc with q | q | q <;> rw [q] <;> decide
    have hA := (I.1.2.2.2.2.2 _ hlt).2.2 (by rcases hc with q | q | q <;> rw [q] <;> decide)
    have hkd : akd (shv μ w (adr x)).1 = 1 := by rcases hc with q | q | q <;> rw [q] <;> rfl
    obtain ⟨⟨cell, a1, a2, a3, a4, a5, a6⟩, a7, a8⟩ := id hA
    have fin : ∀ (H' : Heap) (lc : List Loc), KN (pc + 1) ls st (wC w (adr x) j.toInt y) → okv (tagv 1 y) → H'[gad G (adr x)]? = some (cell.setSlot j.toNatClampNeg (gv G (tagv 1 y))) → H'.size = H.size → (∀ q, q ≠ gad G (adr x) → H'[q]? = H[q]?) → va_S (gA G) s.heap H' lc → W p l e R s mI args below meth c H' lc cells slots Q (F0 mI (pc + 1) lsC (st.map (gv G))) := by
      intro H' lc h oy e1 e2 e3 e4
      refine kn _ _ _ _ _ _ _ _ _ h ⟨?_, e4, hL, fun u q => hst u (List.mem_cons_of_mem _ (List.mem_cons_of_mem _ (List.mem_cons_of_mem _ q)))⟩ rfl rfl
      refine I.1.upd h53 hlt rfl rfl (fun b' hb' k => by show upC _ _ _ _ _ _ = _; rw [upC, if_neg (fun q => hb' q.1)]) e2 e3 ?_
      have hs : shv μ (wC w (adr x) j.toInt y) (adr x) = shv μ w (adr x) := rfl
      refine ⟨fun q => ?_, fun q => ?_, fun _ => ?_⟩
      · rw [hs] at q; rcases hc with r | r | r <;> rw [r] at q <;> omega
      · rw [hs] at q; rcases hc with r | r | r <;> rw [r] at q <;> omega
      · rw [hs]
        exact hA.set hc2 z3 (by rw [hkd]; exact oy) a1 (by rw [hkd]; exact e1) (fun k => by show upC _ _ _ _ _ _ = _; rw [upC, z2]; simp)
    
    have hty : aty (shv μ w (adr x)).1 = .long := by rcases hc with q | q | q <;> rw [q] <;> rfl
    rw [hty] at a2
    have oy := hst _ List.mem_cons_self
    rw [List.map_cons, List.map_cons, List.map_cons, gv_i, gv_a G hx0]
    exact W.last hx hb a1 a2 a3 (by rw [a4]; exact z1) rfl rfl hd (fun H' e1 e2 e3 => fin H' _ h oy e1 e2 e3 (I.2.1.put e2 e3 (gad_new h53)))
  case bastore =>
    obtain rfl : len = 1 := by simpa [isSw, ilen] using hlen
    obtain ⟨y, st, rfl, g⟩ := iI h
    clear h
    have h := g
    clear g
    obtain ⟨i, st, rfl, g⟩ := iI h
    clear h
    have h := g
    clear g
    obtain ⟨x, st, rfl, g⟩ := iA h
    clear h
    have h := g
    clear g
    obtain ⟨hx0, hc, h⟩ := iAr h
    obtain ⟨hix, h⟩ := iX h
    obtain ⟨j, rfl⟩ := hst (.inl i) (List.mem_cons_of_mem _ List.mem_cons_self)
    obtain ⟨z1, z2, z3⟩ := ix_in hix
    have hlt : adr x < w.1 := I.1.lt (by rcases hc with q | q | q <;> rw [q] <;> decide)
    have h53 : 53 ≤ adr x := I.1.new53 (by rcases hc with q | q | q <;> rw [q] <;> decide)
    have hc2 : (shv μ w (adr x)).1 < 105 := by rcases hc with q | q | q <;> rw [q] <;> decide
    have hA := (I.1.2.2.2.2.2 _ hlt).2.2 (by rcases hc with q | q | q <;> rw [q] <;> decide)
    have hkd : akd (shv μ w (adr x)).1 = 0 := by rcases hc with q | q | q <;> rw [q] <;> rfl
    obtain ⟨⟨cell, a1, a2, a3, a4, a5, a6⟩, a7, a8⟩ := id hA
    have fin : ∀ (H' : Heap) (lc : List Loc), KN (pc + 1) ls st (wC w (adr x) j.toInt y) → okv (tagv 0 y) → H'[gad G (adr x)]? = some (cell.setSlot j.toNatClampNeg (gv G (tagv 0 y))) → H'.size = H.size → (∀ q, q ≠ gad G (adr x) → H'[q]? = H[q]?) → va_S (gA G) s.heap H' lc → W p l e R s mI args below meth c H' lc cells slots Q (F0 mI (pc + 1) lsC (st.map (gv G))) := by
      intro H' lc h oy e1 e2 e3 e4
      refine kn _ _ _ _ _ _ _ _ _ h ⟨?_, e4, hL, fun u q => hst u (List.mem_cons_of_mem _ (List.mem_cons_of_mem _ (List.mem_cons_of_mem _ q)))⟩ rfl rfl
      refine I.1.upd h53 hlt rfl rfl (fun b' hb' k => by show upC _ _ _ _ _ _ = _; rw [upC, if_neg (fun q => hb' q.1)]) e2 e3 ?_
      have hs : shv μ (wC w (adr x) j.toInt y) (adr x) = shv μ w (adr x) := rfl
      refine ⟨fun q => ?_, fun q => ?_, fun _ => ?_⟩
      · rw [hs] at q; rcases hc with r | r | r <;> rw [r] at q <;> omega
      · rw [hs] at q; rcases hc with r | r | r <;> rw [r] at q <;> omega
      · rw [hs]
        exact hA.set hc2 z3 (by rw [hkd]; exact oy) a1 (by rw [hkd]; exact e1) (fun k => by show upC _ _ _ _ _ _ = _; rw [upC, z2]; simp)
    
    have oy := hst _ List.mem_cons_self
    rw [List.map_cons, List.map_cons, List.map_cons, gv_i, gv_a G hx0]
    by_cases hz : (shv μ w (adr x)).1 = 102
    · rw [if_pos hz] at h
      obtain ⟨hy, h⟩ := iIf h
      rw [hz] at a2
      obtain ⟨k, rfl⟩ := oy
      have e0 : narrow .byte (.int k) = .int k := by
        rw [narrow_byte]
        congr 1
        apply Int32.toInt_inj.mp
        rw [← e_i2b]
        exact Int.bmod_eq_of_le (by omega) (by omega)
      rw [gv_i] 
      exact W.bast hx hb a1 a2 a3 (by rw [a4]; exact z1) rfl rfl hd (fun H' e1 e2 e3 => fin H' _ h ⟨k, rfl⟩ (by rw [e0] at e1; rw [show tagv 0 k.toInt = .inl k.toInt from rfl, gv_i]; exact e1) e2 e3 (I.2.1.put e2 e3 (gad_new h53)))
    · rw [if_neg hz] at h
      obtain ⟨hy, h⟩ := iIf h
      have hz2 : (shv μ w (adr x)).1 = 103 := by omega
      rw [hz2] at a2
      exact W.zast hx hb a1 a2 a3 (by rw [a4]; exact z1) rfl rfl hd (fun H' e1 e2 e3 => fin H' _ h oy (by rcases hy with r | r <;> rw [r] at e1 ⊢ <;> exact e1) e2 e3 (I.2.1.put e2 e3 (gad_new h53)))
  case aastore =>
    obtain rfl : len = 1 := by simpa [isSw, ilen] using hlen
    obtain ⟨y, st, rfl, g⟩ := iA h
    clear h
    have h := g
    clear g
    obtain ⟨i, st, rfl, g⟩ := iI h
    clear h
    have h := g
    clear g
    obtain ⟨x, st, rfl, g⟩ := iA h
    clear h
    have h := g
    clear g
    obtain ⟨hx0, hc, h⟩ := iAr h
    obtain ⟨hix, h⟩ := iX h
    obtain ⟨j, rfl⟩ := hst (.inl i) (List.mem_cons_of_mem _ List.mem_cons_self)
    obtain ⟨z1, z2, z3⟩ := ix_in hix
    have hlt : adr x < w.1 := I.1.lt (by rcases hc with q | q | q <;> rw [q] <;> decide)
    have h53 : 53 ≤ adr x := I.1.new53 (by rcases hc with q | q | q <;> rw [q] <;> decide)
    have hc2 : (shv μ w (adr x)).1 < 105 := by rcases hc with q | q | q <;> rw [q] <;> decide
    have hA := (I.1.2.2.2.2.2 _ hlt).2.2 (by rcases hc with q | q | q <;> rw [q] <;> decide)
    have hkd : akd (shv μ w (adr x)).1 = 2 := by rcases hc with q | q | q <;> rw [q] <;> rfl
    obtain ⟨⟨cell, a1, a2, a3, a4, a5, a6⟩, a7, a8⟩ := id hA
    have fin : ∀ (H' : Heap) (lc : List Loc), KN (pc + 1) ls st (wC w (adr x) j.toInt y) → okv (tagv 2 y) → H'[gad G (adr x)]? = some (cell.setSlot j.toNatClampNeg (gv G (tagv 2 y))) → H'.size = H.size → (∀ q, q ≠ gad G (adr x) → H'[q]? = H[q]?) → va_S (gA G) s.heap H' lc → W p l e R s mI args below meth c H' lc cells slots Q (F0 mI (pc + 1) lsC (st.map (gv G))) := by
      intro H' lc h oy e1 e2 e3 e4
      refine kn _ _ _ _ _ _ _ _ _ h ⟨?_, e4, hL, fun u q => hst u (List.mem_cons_of_mem _ (List.mem_cons_of_mem _ (List.mem_cons_of_mem _ q)))⟩ rfl rfl
      refine I.1.upd h53 hlt rfl rfl (fun b' hb' k => by show upC _ _ _ _ _ _ = _; rw [upC, if_neg (fun q => hb' q.1)]) e2 e3 ?_
      have hs : shv μ (wC w (adr x) j.toInt y) (adr x) = shv μ w (adr x) := rfl
      refine ⟨fun q => ?_, fun q => ?_, fun _ => ?_⟩
      · rw [hs] at q; rcases hc with r | r | r <;> rw [r] at q <;> omega
      · rw [hs] at q; rcases hc with r | r | r <;> rw [r] at q <;> omega
      · rw [hs]
        exact hA.set hc2 z3 (by rw [hkd]; exact oy) a1 (by rw [hkd]; exact e1) (fun k => by show upC _ _ _ _ _ _ = _; rw [upC, z2]; simp)
    
    obtain ⟨⟨hy0, hy1⟩, h⟩ := iIf h
    have lk : b = 2 := lk
    have hc3 : (shv μ w (adr x)).1 = 104 := by omega
    have hO := (I.1.2.2.2.2.2 _ (I.1.lt (by rw [hy1, lk]; decide))).1 (by rw [hy1, lk]; decide)
    rw [hy1, lk] at hO
    obtain ⟨⟨cellV, g1, g2, g3, -⟩, -⟩ := hO
    have hcls := (hK.1 2 (by decide)).2
    obtain ⟨r1, r2⟩ := a5 hc2
    rw [hc3] at r2
    obtain ⟨kA, comp, k1, k2, k3, -⟩ := r2
    have hcomp : comp = G.2.2.2.1 2 := Option.some.inj (k3.symm.trans hcls.1)
    subst hcomp
    obtain ⟨kC, hkC, -⟩ := hcls.2
    rw [List.map_cons, List.map_cons, List.map_cons, gv_i, gv_a G hx0, gv_a G hy0]
    refine W.aast hx hb a1 (fun q r => by rw [r1] at r; cases r) a3 k1 k2 rfl hkC ⟨fun q => z1 (Or.inl q), by rw [a4]; exact z3⟩ g1 (fun q r => by rw [g3] at r; cases r) (by rw [g2]; exact hkC) (by rw [g2]; exact va_assign hcls) rfl rfl hd fun H' e1 e2 e3 => ?_
    exact fin H' _ h trivial (by rw [show tagv 2 y = .inr (.inr y) from rfl, gv_a G hy0]; exact e1) e2 e3 (I.2.1.put e2 e3 (gad_new h53))
  case arraylength =>
    obtain rfl : len = 1 := by simpa [isSw, ilen] using hlen
    obtain ⟨x, st, rfl, g⟩ := iA h
    clear h
    have h := g
    clear g
    obtain ⟨hx0, h⟩ := iIf h
    obtain ⟨hc, h⟩ := iIf h
    have hlt : adr x < w.1 := I.1.lt (by omega)
    obtain ⟨⟨cell, a1, a2, a3, a4, a5, a6⟩, a7, a8⟩ := (I.1.2.2.2.2.2 _ hlt).2.2 hc
    rw [List.map_cons, gv_a G hx0]
    have e0 : (nI (shv μ w (adr x)).2).toInt = ((shv μ w (adr x)).2 : Int) := nI_toInt a7
    rw [← e0] at h
    refine W.alen (n := nI (shv μ w (adr x)).2) hx hb a1 a2 (by rw [a4]; rfl) rfl rfl hd ?_
    have := kn _ _ _ _ _ _ _ _ _ h (I.stk (ok1 hst ⟨_, rfl⟩ (fun _ q => List.mem_cons_of_mem _ q))) rfl rfl
    rw [List.map_cons, gv_i] at this
    exact this
  case new idx =>
    obtain rfl : len = 3 := by simpa [isSw, ilen] using hlen
    obtain ⟨ha, hb2, l1, l2, l3⟩ := lk
    have rm := room _ _ _ _ h
    have rm1 : cells + (w.1 + 1) ≤ R.cells + w.1 := rm.1
    have rm2 : slots + (w.2.1 + b) ≤ R.slots + w.2.1 := rm.2
    have hKn := hK.1 a ha
    refine W.newcK hx hb hown (hts _ l1) (hts _ l2) (hts _ l3) rfl hd (by omega) (by omega) hKn.2.1 rfl fun H' kC hkC e1 z1 o1 => ?_
    have hbn := u_born (o := H.size) (fty a) hts (f_ws a ha) hKn hkC e1 (f_ty a ha)
    have hge := gad_end I.1
    have hmu := I.1.2.2.1
    have hz := (I.1.2.2.2.1 w.1 (Nat.le_refl _)).2
    have go := kn _ _ _ _ H' locs (cells + 1) (slots + b) lsC h ⟨?_, ⟨Nat.le_trans I.2.1.1 (by omega), fun q g1 g2 => (o1 q (Nat.lt_of_lt_of_le g1 I.2.1.1)).trans (I.2.1.2.1 q g1 g2), I.2.1.2.2⟩, hL, ok1 hst trivial (fun _ q => q)⟩ (by show cells + 1 + w.1 = cells + (w.1 + 1); omega) (by show slots + b + w.2.1 = slots + (w.2.1 + b); omega)
    · rw [List.map_cons, gv_a G (by omega), adr_s, hge] at go
      exact go
    · refine I.1.more z1 o1 ⟨fun _ => ?_, fun q => ?_, fun q => ?_⟩
      · rw [sh_new hmu]
        show OR G H' w.1 a (cv μ (alloc w a b) w.1)
        refine ⟨?_, fun k hk => ?_⟩
        · rw [hge]
          refine hbn.to (fun k hk => ?_)
          rw [cv_new hmu hz]
          exact def_ok ha hk
        · rw [cv_new hmu hz]
          exact ok_z _
      · rw [sh_new hmu] at q
        have q : a = 60 := q
        omega
      · rw [sh_new hmu] at q
        have q : 100 ≤ a ∧ a ≤ 112 := q
        omega
  case newarray t =>
    obtain rfl : len = 2 := by simpa [isSw, ilen] using hlen
    obtain ⟨n, st, rfl, g⟩ := iI h
    clear h
    have h := g
    clear g
    obtain ⟨hn, h⟩ := iIf h
    obtain ⟨j, rfl⟩ := hst _ List.mem_cons_self
    obtain ⟨l1, l2⟩ := lk
    have ha : a = 100 ∨ a = 101 ∨ a = 102 ∨ a = 103 := by omega
    have rm := room _ _ _ _ h
    have rm1 : cells + (w.1 + 1) ≤ R.cells + w.1 := rm.1
    have rm2 : slots + (w.2.1 + j.toInt.toNat) ≤ R.slots + w.2.1 := rm.2
    have hge := gad_end I.1
    have hmu := I.1.2.2.1
    have hz := (I.1.2.2.2.1 w.1 (Nat.le_refl _)).2
    have hneg : ¬ j < 0 := fun q => by have : j.toInt < 0 := Int32.lt_iff_toInt_lt.mp q; omega
    have fin : ∀ (H' : Heap) (cA : ClassId), H'[H.size]? = some (arrV cA j.toInt.toNat (fun _ => gv G (tagv (akd a) 0))) → H'.size = H.size + 1 → (∀ q, q < H.size → H'[q]? = H[q]?) → ArrOfT s cA (aty a) → va_RA s cA (aty a) → W p l e R s mI args below meth c H' locs (cells + 1) (slots + j.toInt.toNat) Q (F0 mI (pc + 2) lsC (.ref H.size :: st.map (gv G))) := by
      intro H' cA e1 z1 o1 hAr hRA
      have go := kn _ _ _ _ H' locs (cells + 1) (slots + j.toInt.toNat) lsC h ⟨?_, ⟨Nat.le_trans I.2.1.1 (by omega), fun q g1 g2 => (o1 q (Nat.lt_of_lt_of_le g1 I.2.1.1)).trans (I.2.1.2.1 q g1 g2), I.2.1.2.2⟩, hL, ok1 hst trivial (fun _ q => List.mem_cons_of_mem _ q)⟩ (by show cells + 1 + w.1 = cells + (w.1 + 1); omega) (by show slots + j.toInt.toNat + w.2.1 = slots + (w.2.1 + j.toInt.toNat); omega)
      · rw [List.map_cons, gv_a G (by omega), adr_s, hge] at go
        exact go
      · refine I.1.more z1 o1 ⟨fun q => ?_, fun q => ?_, fun _ => ?_⟩
        · rw [sh_new hmu] at q
          have q : a < 13 := q
          omega
        · rw [sh_new hmu] at q
          have q : a = 60 := q
          omega
        · rw [sh_new hmu]
          have ez : (alloc w a j.toInt.toNat).2.2.2 w.1 = fun _ => 0 := funext hz
          rw [ez]
          exact ⟨⟨arrV cA j.toInt.toNat (fun _ => gv G (tagv (akd a) 0)), by rw [hge]; exact e1, hAr _ _, (fun q => by cases q), arrV_size _ _ _, fun _ => ⟨rfl, hRA⟩, fun k hk => arrV_read _ _ hk⟩, by show j.toInt.toNat < 2 ^ 31; omega, fun _ => ok_z _⟩
    
    rw [List.map_cons, gv_i]
    have hb3 : j.toInt.toNat * componentBytes (newarray.typeOf t) ≤ 536870912 := by
      have : componentBytes (newarray.typeOf t) ≤ 8 := by cases t <;> decide
      have h2 : j.toInt.toNat ≤ 1000000 := by omega
      have := Nat.mul_le_mul h2 this
      omega
    refine va_newaK hx hb (hts _ l1) rfl hd rfl hneg (N := j.toInt.toNat) rfl hb3 (by omega) (by omega) rfl fun H' cA e1 z1 o1 hAr hNm => ?_
    rcases l2 with ⟨rfl, rfl⟩ | ⟨rfl, rfl⟩ | ⟨rfl, rfl⟩ | ⟨rfl, rfl⟩ <;> exact fin H' cA e1 z1 o1 hAr hNm
  case anewarray idx =>
    obtain rfl : len = 3 := by simpa [isSw, ilen] using hlen
    obtain ⟨n, st, rfl, g⟩ := iI h
    clear h
    have h := g
    clear g
    obtain ⟨hn, h⟩ := iIf h
    obtain ⟨j, rfl⟩ := hst _ List.mem_cons_self
    have l1 : Cond.classLink own idx "EchoTune$State" ∈ WS := lk
    have rm := room _ _ _ _ h
    have rm1 : cells + (w.1 + 1) ≤ R.cells + w.1 := rm.1
    have rm2 : slots + (w.2.1 + j.toInt.toNat) ≤ R.slots + w.2.1 := rm.2
    have hge := gad_end I.1
    have hmu := I.1.2.2.1
    have hz := (I.1.2.2.2.1 w.1 (Nat.le_refl _)).2
    have hneg : ¬ j < 0 := fun q => by have : j.toInt < 0 := Int32.lt_iff_toInt_lt.mp q; omega
    have fin : ∀ (H' : Heap) (cA : ClassId), H'[H.size]? = some (arrV cA j.toInt.toNat (fun _ => gv G (tagv (akd 104) 0))) → H'.size = H.size + 1 → (∀ q, q < H.size → H'[q]? = H[q]?) → ArrOfT s cA (aty 104) → va_RA s cA (aty 104) → W p l e R s mI args below meth c H' locs (cells + 1) (slots + j.toInt.toNat) Q (F0 mI (pc + 3) lsC (.ref H.size :: st.map (gv G))) := by
      intro H' cA e1 z1 o1 hAr hRA
      have go := kn _ _ _ _ H' locs (cells + 1) (slots + j.toInt.toNat) lsC h ⟨?_, ⟨Nat.le_trans I.2.1.1 (by omega), fun q g1 g2 => (o1 q (Nat.lt_of_lt_of_le g1 I.2.1.1)).trans (I.2.1.2.1 q g1 g2), I.2.1.2.2⟩, hL, ok1 hst trivial (fun _ q => List.mem_cons_of_mem _ q)⟩ (by show cells + 1 + w.1 = cells + (w.1 + 1); omega) (by show slots + j.toInt.toNat + w.2.1 = slots + (w.2.1 + j.toInt.toNat); omega)
      · rw [List.map_cons, gv_a G (by omega), adr_s, hge] at go
        exact go
      · refine I.1.more z1 o1 ⟨fun q => ?_, fun q => ?_, fun _ => ?_⟩
        · rw [sh_new hmu] at q
          have q : 104 < 13 := q
          omega
        · rw [sh_new hmu] at q
          have q : 104 = 60 := q
          omega
        · rw [sh_new hmu]
          have ez : (alloc w 104 j.toInt.toNat).2.2.2 w.1 = fun _ => 0 := funext hz
          rw [ez]
          exact ⟨⟨arrV cA j.toInt.toNat (fun _ => gv G (tagv (akd 104) 0)), by rw [hge]; exact e1, hAr _ _, (fun q => by cases q), arrV_size _ _ _, fun _ => ⟨rfl, hRA⟩, fun k hk => arrV_read _ _ hk⟩, by show j.toInt.toNat < 2 ^ 31; omega, fun _ => ok_z _⟩
    
    rw [List.map_cons, gv_i]
    refine W.anew hx hb hown (hts _ l1) (va_AO.use hK.2.2.2.2.1.1) rfl hd rfl hneg (by show j.toInt.toNat * 4 ≤ 536870912; omega) (by omega) (by show slots + j.toInt.toNat ≤ _; omega) fun cA kA comp f1 f2 f3 f4 => ?_
    refine fin _ cA ?_ (by rw [Array.size_push]) (fun q hq => by rw [Array.getElem?_push, if_neg (Nat.ne_of_lt hq)]) (fun N z => ⟨(fun k h => by cases h), kA, f2, comp, f3⟩) ⟨kA, comp, f2, f3, f4, f1⟩
    rw [Array.getElem?_push_size, show (Array.replicate j.toNatClampNeg Value.null) = Array.replicate j.toInt.toNat Value.null from rfl, arrV_new, show gv G (tagv (akd 104) 0) = .null from gv_n G]
  case invokespecial idx =>
    obtain rfl : len = 3 := by simpa [isSw, ilen] using hlen
    by_cases ha : a = 9999
    · have h : (if a = 9999 then (pA st False fun x st => if 0 < x ∧ asum st ≤ 8 then KN (pc + 3) ls st w else False) else (if b ≤ st.length ∧ asum (st.drop b) ≤ 8 then (pA (st.take b).reverse False fun x l => if 0 < x then KC a (.inr (.inr x) :: l) (st.drop b) else False) else False)) := h
      rw [if_pos ha] at h
      obtain ⟨x, st, rfl, g⟩ := iA h
      clear h
      have h := g
      clear g
      obtain ⟨⟨hx0, hs8⟩, h⟩ := iIf h
      obtain ⟨l1, l2, l3⟩ := lk ha
      rw [List.map_cons, gv_a G hx0]
      exact W.objInit hx hb hown (hts _ l1) (hts _ l2) (hts _ l3) rfl (by show lsC.size = _; rw [hL.1, hml]) rfl hd hR1 (by show 2 * 0 + _ + 12 ≤ _; rw [gv_sum]; omega) (kn _ _ _ _ _ _ _ _ _ h (I.stk (fun u q => hst u (List.mem_cons_of_mem _ q))) rfl rfl)
    · have h : (if a = 9999 then (pA st False fun x st => if 0 < x ∧ asum st ≤ 8 then KN (pc + 3) ls st w else False) else (if b ≤ st.length ∧ asum (st.drop b) ≤ 8 then (pA (st.take b).reverse False fun x l => if 0 < x then KC a (.inr (.inr x) :: l) (st.drop b) else False) else False)) := h
      rw [if_neg ha] at h
      obtain ⟨⟨g1, g2⟩, h⟩ := iIf h
      obtain ⟨x, l', e1, h⟩ := iA h
      obtain ⟨hx0, h⟩ := iIf h
      exact kc _ _ _ h ⟨by rw [← e1, List.reverse_reverse, List.take_append_drop], g2, by rw [← e1, List.length_reverse, List.length_take]; exact Nat.min_eq_left g1, Or.inl ⟨idx, x, l', rfl, rfl, rfl, hx0⟩⟩
  case invokevirtual idx =>
    obtain ⟨⟨g1, g2⟩, h⟩ := iIf h
    obtain ⟨x, l', e1, h⟩ := iA h
    obtain ⟨hx0, h⟩ := iIf h
    obtain ⟨hsh, h⟩ := iIf h
    exact kc _ _ _ h ⟨by rw [← e1, List.reverse_reverse, List.take_append_drop], g2, by rw [← e1, List.length_reverse, List.length_take]; exact Nat.min_eq_left g1, Or.inr (Or.inr ⟨idx, x, l', rfl, rfl, rfl, hx0, hsh⟩)⟩
  case invokestatic idx =>
    obtain rfl : len = 3 := by simpa [isSw, ilen] using hlen
    by_cases ha : a = 9998
    · have h : (if a = 9998 then (pI st False fun n st => pI st False fun tp st => pA st False fun t st => pI st False fun sp st => pA st False fun s' st =>
              arN μ w s' 100 100 100 False fun s' ns => arN μ w t 100 100 100 False fun t nt => if s' ≠ t ∧ 0 ≤ n ∧ 0 ≤ sp ∧ 0 ≤ tp ∧ sp + n ≤ ns ∧ tp + n ≤ nt ∧ asum st ≤ 8 then KN (pc + 3) ls st (w.1, w.2.1, w.2.2.1, cpC w.2.2.2 s' sp t tp n) else False)
            else (if b ≤ st.length ∧ asum (st.drop b) ≤ 8 then KC a (st.take b).reverse (st.drop b) else False)) := h
      rw [if_pos ha] at h
      obtain ⟨n, st, rfl, g⟩ := iI h
      clear h
      have h := g
      clear g
      obtain ⟨tp, st, rfl, g⟩ := iI h
      clear h
      have h := g
      clear g
      obtain ⟨t, st, rfl, g⟩ := iA h
      clear h
      have h := g
      clear g
      obtain ⟨sp, st, rfl, g⟩ := iI h
      clear h
      have h := g
      clear g
      obtain ⟨sr, st, rfl, g⟩ := iA h
      clear h
      have h := g
      clear g
      obtain ⟨hs0, hs1, h⟩ := iAr h
      obtain ⟨ht0, ht1, h⟩ := iAr h
      obtain ⟨⟨r1, r2, r3, r4, r5, r6, r7⟩, h⟩ := iIf h
      obtain ⟨l1, l2, l3, l4⟩ := lk ha
      rw [List.map_cons, List.map_cons, List.map_cons, List.map_cons, List.map_cons, gv_a G hs0, gv_a G ht0]
      exact cp_sound ⟨hx, hb, hml, hown, hts, hlocks, hK⟩ hR1 hR3 I hs0 ht0 (by omega) (by omega) r1 r2 r3 r4 r5 r6 r7 (hst _ List.mem_cons_self) (hst _ (List.mem_cons_of_mem _ List.mem_cons_self)) (hst _ (List.mem_cons_of_mem _ (List.mem_cons_of_mem _ (List.mem_cons_of_mem _ List.mem_cons_self)))) (hts _ l1) (hts _ l2) (hts _ l3) (hts _ l4) hd (fun H' lc g1 g2 => kn _ _ _ _ _ _ _ _ _ h ⟨g1, g2, hL, fun u q => hst u (by simp [q])⟩ rfl rfl)
    · have h : (if a = 9998 then (pI st False fun n st => pI st False fun tp st => pA st False fun t st => pI st False fun sp st => pA st False fun s' st =>
              arN μ w s' 100 100 100 False fun s' ns => arN μ w t 100 100 100 False fun t nt => if s' ≠ t ∧ 0 ≤ n ∧ 0 ≤ sp ∧ 0 ≤ tp ∧ sp + n ≤ ns ∧ tp + n ≤ nt ∧ asum st ≤ 8 then KN (pc + 3) ls st (w.1, w.2.1, w.2.2.1, cpC w.2.2.2 s' sp t tp n) else False)
            else (if b ≤ st.length ∧ asum (st.drop b) ≤ 8 then KC a (st.take b).reverse (st.drop b) else False)) := h
      rw [if_neg ha] at h
      obtain ⟨⟨g1, g2⟩, h⟩ := iIf h
      exact kc _ _ _ h ⟨by rw [List.reverse_reverse, List.take_append_drop], g2, by rw [List.length_reverse, List.length_take]; exact Nat.min_eq_left g1, Or.inr (Or.inl ⟨idx, rfl, rfl⟩)⟩
  all_goals exact h.elim
