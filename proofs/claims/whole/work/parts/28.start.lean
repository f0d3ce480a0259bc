/-! THE START: the script and the constant texts as the first 53 cells; from a run of the plain machine to the law's end. -/
section Start
def byL : List (List Int) := [[40, 41, 60, 61, 43, 45, 42, 59], [110, 111, 116, 101, 115], [109, 101, 116, 101, 114], [101, 99, 104, 111], [108, 97, 116, 101], [117, 112], [100, 111, 119, 110], [116, 117, 114, 110], [116, 119, 105, 99, 101], [104, 97, 108, 102], [98, 97, 99, 107], [108, 101, 97, 112], [115, 116, 114, 111, 110, 103], [97, 112, 97, 114, 116], [119, 97, 115], [109, 111, 118, 101], [111, 116, 104, 101, 114], [110, 111, 116], [97, 110, 100], [111, 114], [108, 97, 119], [112, 97, 105, 114], [114, 101, 115, 116], [97, 103, 97, 105, 110], [117, 112], [100, 111, 119, 110]]
def st0S (L : Nat) : Nat → Nat × Nat := fun a => if a = 0 then (110, L) else if a < 27 then (60, 2) else if a < 53 then (112, (byL.getD (a - 27) []).length) else (999, 0)
def st0C (xs : Nat → Int32) : Nat → Int → Int := fun a i => if a = 0 then (xs i.toNat).toInt else if a < 27 then (if i = 0 then (a : Int) + 27 else 0) else if a < 53 then (byL.getD (a - 27) []).getD i.toNat 0 else 0
def st0 (L : Nat) (xs : Nat → Int32) : AW := (53, 0, st0S L, st0C xs)
/-- what is left to prove of the plain machine -/
def LawOK : Prop := ∀ (L : Nat) (xs : Nat → Int32), L ≤ 448 → ∃ w' : AW, Lm P0 M1 1000 288 0 [some (.inr (.inr 1)), none, none, none, none, none, none] [] (st0 L xs) = some (some (.inl 1), w') ∧ w'.1 ≤ 600181 ∧ w'.2.1 ≤ 7301098
theorem by_ok : ∀ i, i < 26 → (byL.getD i []).length < 2 ^ 31 ∧ ∀ b ∈ byL.getD i [], 0 ≤ b ∧ b < 128 := by decide +kernel
def tm0 (i : Nat) : Term := .string (sx0 i).1 (sx0 i).2.1
def fl0 : List Jvm.Cond := flatC (Jvm.Cond.and given_1 narrow_1)
set_option maxRecDepth 100000 in
theorem fl_t : ∀ i, i < 26 → Cond.exactly (tm0 i) "java/lang/String" ∈ fl0 ∧ Cond.eq (.field (tm0 i) "java/lang/String" "coder" "B") (.int 0) ∈ fl0 ∧ Cond.arrayOf (.field (tm0 i) "java/lang/String" "value" "[B") .byte ∈ fl0 ∧ Cond.eq (.length (.field (tm0 i) "java/lang/String" "value" "[B")) (.int (Int32.ofNat (byL.getD i []).length)) ∈ fl0 := by decide +kernel
set_option maxRecDepth 100000 in
theorem fl_b : ∀ i, i < 26 → ∀ j, j < (byL.getD i []).length → Cond.eq (.elem (.field (tm0 i) "java/lang/String" "value" "[B") (.int (Int32.ofNat j))) (.int (Int32.ofInt ((byL.getD i []).getD j 0))) ∈ fl0 := by decide +kernel
set_option maxRecDepth 100000 in
theorem fl_s : Cond.eq (.static "java/lang/String" "COMPACT_STRINGS" "Z") (.int 1) ∈ fl0 ∧ Cond.isRef (.static "jdk/internal/util/Preconditions" "SIOOBE_FORMATTER" "Ljava/util/function/BiFunction;") ∈ fl0 ∧ Cond.isRef (.static Bundle.tN "UNASSIGNED_STACK" Bundle.steD) ∈ fl0 ∧ Cond.isRef (.static Bundle.tN "SUPPRESSED_SENTINEL" Bundle.listD) ∈ fl0 := by decide +kernel
theorem tb_in {i : Nat} {w : Cond} (h : tables_1[i]? = some w) : w ∈ lw_tbl := List.mem_append_right _ (List.mem_of_getElem? h)
def srL : List Nat := [585, 680, 720, 725, 730, 740, 745, 746, 747, 748, 749, 750, 773, 774, 775, 776, 777, 778, 799, 800, 816, 817, 862, 864, 871, 872]
def inL : List Nat := [27, 35, 70, 76, 179, 213, 249, 286, 324, 353, 405, 442, 1435]
def neL : List Nat := [36, 77, 185, 1019, 1049, 1125, 1193, 1253]
set_option maxRecDepth 100000 in
theorem sr_ok : ∀ i, i < 26 → tables_1[srL.getD i 0]? = some (Cond.stringRef (sx0 i).1 (sx0 i).2.1 (sx0 i).2.2) := by decide +kernel
set_option maxRecDepth 100000 in
theorem in_ok : ∀ c, c < 13 → tables_1[inL.getD c 0]? = some (Cond.instantiable (cN c) (nF c)) := by decide +kernel
set_option maxRecDepth 100000 in
theorem ne_ok : ∀ q ∈ nestL, ∃ i ∈ neL, tables_1[i]? = some (Cond.methodLinkNest q.1 q.2.1 q.2.2 "EchoTune") := by decide +kernel
set_option maxRecDepth 100000 in
theorem xw_ok : ∀ w ∈ xwL, ∃ i ∈ [1366, 1368, 1370, 1365], tables_1[i]? = some w := by decide +kernel
theorem len_eval {tm : Term} {t N : Nat} {args : Array Value} {s : State} {cell : Cell} (ht : tm.eval args s none [] s = some (.ref t)) (hlen : (Term.length tm).eval args s none [] s = some (.int (Int32.ofNat N))) (hN : N < 2 ^ 31) (hc : s.heap[t]? = some cell) : cell.slots.size = N := by
  simp only [Term.eval, ht, Option.bind_eq_bind, Option.bind_some] at hlen
  cases ha : s.arrayAt? t with
  | none => rw [ha] at hlen; cases hlen
  | some c =>
    rw [ha] at hlen
    obtain ⟨hcb, -⟩ := State.arrayAt?_spec ha
    cases hc.symm.trans hcb
    simp only [Option.bind_some] at hlen
    split at hlen
    · rename_i hlt
      have h1 : Int32.ofNat cell.slots.size = Int32.ofNat N := by
        have := Option.some.inj hlen
        injection this
      have h2 := congrArg Int32.toInt h1
      have e1 : (nI cell.slots.size).toInt = (cell.slots.size : Int) := nI_toInt hlt
      have e2 : (nI N).toInt = (N : Int) := nI_toInt hN
      unfold nI at e1 e2
      rw [e1, e2] at h2
      omega
    · cases hlen
theorem map_gD (l : List Int) {j : Nat} (h : j < l.length) : (l.map Int32.ofInt).getD j 0 = Int32.ofInt (l.getD j 0) := by simp [List.getD_eq_getElem?_getD, h]
/-- one text's cells -/
theorem tx_of {args : Array Value} {s : State} {A : Nat → Prop} (hA : ∀ a : Nat, a < s.heap.size → ¬ A a) (hs : ∀ c ∈ fl0, c.before args s = true) (i : Nat) (hi : i < 26) :
    ∃ q : Nat × Nat, (tm0 i).eval args s none [] s = some (.ref q.1) ∧ va_O "java/lang/String" q.1 A s s.heap ∧ va_OF "java/lang/String" "coder" "B" (.int 0) q.1 A s s.heap ∧ va_OF "java/lang/String" "value" "[B" (.ref q.2) q.1 A s s.heap ∧ ∃ cell : Cell, s.heap[q.2]? = some cell ∧ s.isArrayOf cell .byte ∧ cell.vm ≠ .unknown ∧ cell.slots.size = (byL.getD i []).length ∧ ∀ j : Nat, j < (byL.getD i []).length → cell.slots[j]? = some (.int (Int32.ofInt ((byL.getD i []).getD j 0))) := by
  obtain ⟨f1, f2, f3, f4⟩ := fl_t i hi
  have e0 : ∀ k : Nat, k < 1 → k = 0 := fun k h => by omega
  obtain ⟨adK, adV, ⟨hS, -⟩, hE⟩ := vk_Sof (args := args) (s := s) (N := 1) (tm := fun _ => tm0 i) (len := [(byL.getD i []).length]) (byt := [(byL.getD i []).map Int32.ofInt]) (A := A)
    (fun k hk => by rw [e0 k hk]; exact (by_ok i hi).1) (fun k _ => hs _ f1) (fun k _ => hs _ f2) (fun k _ => hs _ f3) (fun k hk => by rw [e0 k hk]; exact hs _ f4)
    (fun k hk j hj => by
      rw [e0 k hk] at hj ⊢
      have hj' : j < (byL.getD i []).length := hj
      have := hs _ (fl_b i hi j hj')
      have e : (([(byL.getD i []).map Int32.ofInt] : List (List Int32)).getD 0 []).getD j 0 = Int32.ofInt ((byL.getD i []).getD j 0) := by
        show ((byL.getD i []).map Int32.ofInt).getD j 0 = _
        exact map_gD _ hj'
      rw [e]
      exact this)
    (fun a b ha hb hab => absurd ((e0 a ha).trans (e0 b hb).symm) hab) hA
  obtain ⟨h1, h2, h3, cell, c1, c2, c3, c4, c5, c6, c7⟩ := hS 0 (by decide)
  have hval : (Term.field (tm0 i) "java/lang/String" "value" "[B").eval args s none [] s = some (.ref (adV 0)) := by
    obtain ⟨t, ht, hT⟩ := va_Tof (f := fun j => .int ((([(byL.getD i []).map Int32.ofInt] : List (List Int32)).getD 0 []).getD j 0)) (A := A) (by_ok i hi).1 (hs _ f3) (va_eqt (hs _ f4)) (fun j hj => by
      have := va_eqt (hs _ (fl_b i hi j hj))
      rw [this]
      have e : (([(byL.getD i []).map Int32.ofInt] : List (List Int32)).getD 0 []).getD j 0 = Int32.ofInt ((byL.getD i []).getD j 0) := by
        show ((byL.getD i []).map Int32.ofInt).getD j 0 = _
        exact map_gD _ hj
      rw [e]) hA
    have o2 := vk_OFof (A := A) (hE 0 (by decide)) ht hA
    obtain ⟨cf, k, i1, f, cell1, x1, x2, x3, x4, x5, -⟩ := o2
    obtain ⟨cf', k', i1', f', cell1', y1, y2, y3, y4, y5, -⟩ := h3
    cases x1.symm.trans y1
    cases x3.symm.trans y3
    cases x5.symm.trans y5
    exact ht
  refine ⟨(adK 0, adV 0), hE 0 (by decide), h1, h2, h3, cell, c1, c2, c3, len_eval hval (va_eqt (hs _ f4)) (by_ok i hi).1 c1, fun j hj => ?_⟩
  rw [c6 j hj]
  show some (Value.int (((byL.getD i []).map Int32.ofInt).getD j 0)) = _
  rw [map_gD _ hj]
theorem Int32.toInt_ofByte {b : Int} (h : 0 ≤ b ∧ b < 128) : (Int32.ofInt b).toInt = b := by
  rw [Int32.toInt_ofInt]
  show Int.bmod b 4294967296 = b
  exact Int.bmod_eq_of_le (by omega) (by omega)
theorem by_in {i : Nat} (hi : i < 26) (j : Nat) : 0 ≤ (byL.getD i []).getD j 0 ∧ (byL.getD i []).getD j 0 < 128 := by
  rw [List.getD_eq_getElem?_getD]
  cases h : (byL.getD i [])[j]? with
  | none => exact ⟨by decide, by decide⟩
  | some b => exact (by_ok i hi).2 b (List.mem_of_getElem? h)
theorem by_ok32 {i : Nat} (hi : i < 26) (j : Nat) : (Int32.ofInt ((byL.getD i []).getD j 0)).toInt = (byL.getD i []).getD j 0 := Int32.toInt_ofByte (by_in hi j)
set_option maxHeartbeats 1000000 in
/-- the start, as the plain machine sees it -/
theorem start_ok {s : State} {b L : Nat} {xs : Nat → Int32} (hL : L ≤ 448) (hts : ∀ w ∈ lw_tbl, w.before #[Value.ref b] s = true) (hX : va_X b L xs s s.heap) (hb : b < s.heap.size) (hgv : (Jvm.Cond.and given_1 narrow_1).before #[Value.ref b] s = true) :
    ∃ G : GE, G.1 = s.heap.size ∧ G.2.1 0 = b ∧ KF sx0 G s ∧ HR G M1 s (st0 L xs) s.heap := by
  have hs : ∀ c ∈ fl0, c.before #[Value.ref b] s = true := flat_of_before _ hgv
  have hA : ∀ a : Nat, a < s.heap.size → ¬ (fun q => s.heap.size ≤ q) a := fun a h q => absurd h (Nat.not_lt.mpr q)
  have hT : ∀ i : Nat, ∃ q : Nat × Nat, i < 26 → (tm0 i).eval #[Value.ref b] s none [] s = some (.ref q.1) ∧ va_O "java/lang/String" q.1 (fun q => s.heap.size ≤ q) s s.heap ∧ va_OF "java/lang/String" "coder" "B" (.int 0) q.1 (fun q => s.heap.size ≤ q) s s.heap ∧ va_OF "java/lang/String" "value" "[B" (.ref q.2) q.1 (fun q => s.heap.size ≤ q) s s.heap ∧ ∃ cell : Cell, s.heap[q.2]? = some cell ∧ s.isArrayOf cell .byte ∧ cell.vm ≠ .unknown ∧ cell.slots.size = (byL.getD i []).length ∧ ∀ j : Nat, j < (byL.getD i []).length → cell.slots[j]? = some (.int (Int32.ofInt ((byL.getD i []).getD j 0))) := by
    intro i
    by_cases hi : i < 26
    · obtain ⟨q, hq⟩ := tx_of hA hs i hi
      exact ⟨q, fun _ => hq⟩
    · exact ⟨(0, 0), fun h => absurd h hi⟩
  let tx := fun i => Classical.choose (hT i)
  have htx : ∀ i : Nat, i < 26 → (tm0 i).eval #[Value.ref b] s none [] s = some (.ref (tx i).1) ∧ va_O "java/lang/String" (tx i).1 (fun q => s.heap.size ≤ q) s s.heap ∧ va_OF "java/lang/String" "coder" "B" (.int 0) (tx i).1 (fun q => s.heap.size ≤ q) s s.heap ∧ va_OF "java/lang/String" "value" "[B" (.ref (tx i).2) (tx i).1 (fun q => s.heap.size ≤ q) s s.heap ∧ ∃ cell : Cell, s.heap[(tx i).2]? = some cell ∧ s.isArrayOf cell .byte ∧ cell.vm ≠ .unknown ∧ cell.slots.size = (byL.getD i []).length ∧ ∀ j : Nat, j < (byL.getD i []).length → cell.slots[j]? = some (.int (Int32.ofInt ((byL.getD i []).getD j 0))) := fun i hi => Classical.choose_spec (hT i) hi
  have hU : ∀ c : Nat, ∃ q : ClassId × (Nat → Nat), c < 13 → u_Kn s (cN c) (fT c) (nF c) q.1 q.2 := by
    intro c
    by_cases hc : c < 13
    · obtain ⟨cC, iS, h⟩ := u_known (ws := lw_tbl) (args := #[Value.ref b]) (s := s) (C := cN c) (T := fT c) (N := nF c) (n := nF c) hts (fun w hw => (List.mem_filter.mp (f_ws c hc w hw)).1) (hts _ (tb_in (in_ok c hc)))
      exact ⟨(cC, iS), fun _ => h⟩
    · exact ⟨(default, fun _ => 0), fun h => absurd h hc⟩
  let uk := fun c => Classical.choose (hU c)
  have huk : ∀ c : Nat, c < 13 → u_Kn s (cN c) (fT c) (nF c) (uk c).1 (uk c).2 := fun c hc => Classical.choose_spec (hU c) hc
  obtain ⟨fm, hfm⟩ : ∃ fm : Option Nat, va_Z "jdk/internal/util/Preconditions" "SIOOBE_FORMATTER" "Ljava/util/function/BiFunction;" (va_rf fm) (fun q => s.heap.size ≤ q) s s.heap := by
    rcases va_Zqof (A := fun q => s.heap.size ≤ q) (hts _ (tb_in (i := 642) (by decide +kernel))) (hts _ (tb_in (i := 19) (by decide +kernel))) (hs _ fl_s.2.1) hA with h | ⟨t, h⟩
    · exact ⟨none, h⟩
    · exact ⟨some t, h⟩
  let ad : Nat → Nat := fun a => if a = 0 then b else if a < 27 then (tx (a - 1)).1 else (tx (a - 27)).2
  have ad1 : ∀ k, k < 26 → ad (1 + k) = (tx k).1 := fun k hk => by
    show (if 1 + k = 0 then b else if 1 + k < 27 then (tx (1 + k - 1)).1 else _) = _
    rw [if_neg (by omega), if_pos (by omega), Nat.add_sub_cancel_left]
  have ad2 : ∀ a, 27 ≤ a → ad a = (tx (a - 27)).2 := fun a ha => by
    show (if a = 0 then b else if a < 27 then (tx (a - 1)).1 else _) = _
    rw [if_neg (by omega), if_neg (by omega)]
  refine ⟨(s.heap.size, ad, fm, fun c => (uk c).1, fun c => (uk c).2), rfl, rfl, ⟨huk, fun k hk => ?_, ?_, hfm, ⟨va_AO.of (hts _ (tb_in (i := 177) (by decide +kernel))), ?_, ?_, ?_⟩, fun q hq => ?_⟩, ?_⟩
  · show vk_R (sx0 k).1 (sx0 k).2.1 (sx0 k).2.2 (ad (1 + k)) s
    rw [ad1 k hk]
    exact vk_R.of (hts _ (tb_in (sr_ok k hk))) (htx k hk).1
  · exact va_Zof (hts _ (tb_in (i := 599) (by decide +kernel))) (hts _ (tb_in (i := 15) (by decide +kernel))) (va_eqt (hs _ fl_s.1)) hA
  · exact vx_Zqof (hts _ (tb_in (i := 1390) (by decide +kernel))) (hts _ (tb_in (i := 22) (by decide +kernel))) (hs _ fl_s.2.2.1) hA
  · exact vx_Zqof (hts _ (tb_in (i := 1392) (by decide +kernel))) (hts _ (tb_in (i := 22) (by decide +kernel))) (hs _ fl_s.2.2.2) hA
  · exact fun w hw => va_Nw.of (xw_on w hw) (hts _ (by
      obtain ⟨i, -, hi⟩ := xw_ok w hw
      exact tb_in hi))
  · obtain ⟨i, -, hi⟩ := ne_ok q hq
    exact va_Nw.of rfl (hts _ (tb_in hi))
  · have shM : ∀ a, shv M1 (st0 L xs) a = st0S L a := fun a => by unfold shv; rw [if_neg (show ¬ a < M1.1 from Nat.not_lt_zero a)]; rfl
    have cvM : ∀ a, cv M1 (st0 L xs) a = st0C xs a := fun a => by funext k; unfold cv; rw [if_neg (show ¬ a < M1.1 from Nat.not_lt_zero a)]; rfl
    refine ⟨rfl, Nat.le_refl _, Nat.zero_le _, fun a ha => ?_, fun a ha => ?_, fun a ha => ?_⟩
    · have ha' : 53 ≤ a := ha
      refine ⟨?_, fun k => ?_⟩
      · show st0S L a = _
        unfold st0S
        rw [if_neg (by omega), if_neg (by omega), if_neg (by omega)]
      · show st0C xs a k = 0
        unfold st0C
        rw [if_neg (by omega), if_neg (by omega), if_neg (by omega)]
    · rw [shM]
      refine ⟨?_, ?_⟩
      · show ad a < s.heap.size
        by_cases h0 : a = 0
        · show (if a = 0 then b else _) < _
          rw [if_pos h0]; exact hb
        · by_cases h1 : a < 27
          · obtain ⟨cell, c1, -⟩ := (htx (a - 1) (by omega)).2.1
            have e : ad a = (tx (a - 1)).1 := by
              have := ad1 (a - 1) (by omega)
              rwa [show 1 + (a - 1) = a by omega] at this
            rw [e]
            exact (Array.getElem?_eq_some_iff.mp c1).1
          · obtain ⟨cell, c1, -⟩ := (htx (a - 27) (by omega)).2.2.2.2
            rw [ad2 a (by omega)]
            exact (Array.getElem?_eq_some_iff.mp c1).1
      · unfold st0S
        by_cases h0 : a = 0
        · rw [if_pos h0]; exact Or.inl rfl
        · rw [if_neg h0]
          by_cases h1 : a < 27
          · rw [if_pos h1]; exact Or.inr (Or.inl rfl)
          · rw [if_neg h1, if_pos ha]; exact Or.inr (Or.inr rfl)
    · have ha' : a < 53 := ha
      unfold CR
      rw [shM, cvM]
      have gd : ∀ G9 : GE, G9.2.1 = ad → gad G9 a = ad a := fun G9 h => by unfold gad; rw [if_pos ha', h]
      by_cases h0 : a = 0
      · subst h0
        refine ⟨fun q => absurd q (show ¬ 110 < 13 by decide), fun q => absurd q (show ¬ 110 = 60 by decide), fun _ => ?_⟩
        obtain ⟨scr, x1, x2, x3, x4, x5⟩ := hX
        refine ⟨⟨scr, x1, x2, x3, x4, fun q => absurd q (by show ¬ 110 < 105; decide), fun j hj => ?_⟩, by show L < 2 ^ 31; omega, fun j => ⟨_, rfl⟩⟩
        rw [x5 j hj]
        show some (Value.int (xs j)) = some (gv _ (.inl (xs (j : Int).toNat).toInt))
        rw [gv_i, Int.toNat_natCast]
      · by_cases h1 : a < 27
        · have e1 : st0S L a = (60, 2) := by unfold st0S; rw [if_neg h0, if_pos h1]
          rw [e1]
          refine ⟨fun q => absurd q (by decide), fun _ => ?_, fun q => absurd q.1 (by decide)⟩
          have e2 : ad a = (tx (a - 1)).1 := by
            have := ad1 (a - 1) (by omega)
            rwa [show 1 + (a - 1) = a by omega] at this
          obtain ⟨-, t1, t2, t3, -⟩ := htx (a - 1) (by omega)
          have e3 : st0C xs a 0 = (a : Int) + 27 := by unfold st0C; rw [if_neg h0, if_pos h1, if_pos rfl]
          refine ⟨?_, ?_, ?_, ?_⟩
          · rw [gd _ rfl, e2]; exact t1
          · rw [gd _ rfl, e2, e3, gv_a _ (by omega)]
            have e4 : adr ((a : Int) + 27) = a + 26 := by unfold adr; omega
            rw [e4]
            have e5 : gad ((s.heap.size, ad, fm, fun c => (uk c).1, fun c => (uk c).2) : GE) (a + 26) = (tx (a - 1)).2 := by
              unfold gad
              rw [if_pos (by omega)]
              show ad (a + 26) = _
              rw [ad2 (a + 26) (by omega), show a + 26 - 27 = a - 1 by omega]
            rw [e5]
            exact t3
          · rw [gd _ rfl, e2]; exact t2
          · unfold st0C; rw [if_neg h0, if_pos h1, if_neg (by decide)]
        · have e1 : st0S L a = (112, (byL.getD (a - 27) []).length) := by unfold st0S; rw [if_neg h0, if_neg h1, if_pos ha']
          rw [e1]
          refine ⟨fun q => absurd q (show ¬ 112 < 13 by decide), fun q => absurd q (show ¬ 112 = 60 by decide), fun _ => ?_⟩
          obtain ⟨-, -, -, -, cell, c1, c2, c3, c4, c5⟩ := htx (a - 27) (by omega)
          have e3 : ∀ j : Int, (st0 L xs).2.2.2 a j = (byL.getD (a - 27) []).getD j.toNat 0 := fun j => by show st0C xs a j = _; unfold st0C; rw [if_neg h0, if_neg h1, if_pos ha']
          refine ⟨⟨cell, ?_, c2, c3, c4, fun q => absurd q (show ¬ 112 < 105 by decide), fun j hj => ?_⟩, (by_ok (a - 27) (by omega)).1, fun j => ?_⟩
          · rw [gd _ rfl, ad2 a (by omega)]; exact c1
          · rw [c5 j hj, e3, Int.toNat_natCast]
            show _ = some (gv _ (.inl _))
            rw [← by_ok32 (by omega) j, gv_i, by_ok32 (by omega) j]
          · rw [e3]
            exact ⟨Int32.ofInt ((byL.getD (a - 27) []).getD j.toNat 0), (by_ok32 (by omega) j.toNat).symm⟩
end Start

