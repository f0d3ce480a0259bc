set_option maxRecDepth 1000000 in
theorem flL_ok : ∀ q ∈ flL, q.2.2.1 < 13 ∧ q.2.2.2.1 < nF q.2.2.1 ∧ tables_1[q.2.2.2.2]? = some (.fieldLink (cN q.1) q.2.1 (cN q.2.2.1) (fT q.2.2.1 q.2.2.2.1).2.1 (fT q.2.2.1 q.2.2.2.1).2.2.1) ∧ goodWord (.fieldLink (cN q.1) q.2.1 (cN q.2.2.1) (fT q.2.2.1 q.2.2.2.1).2.1 (fT q.2.2.1 q.2.2.2.1).2.2.1) = true := by decide +kernel
def fsN (k : Nat) : String × String := if k = 0 then ("value", "[B") else ("coder", "B")
set_option maxRecDepth 1000000 in
theorem fsL_ok : ∀ q ∈ fsL, tables_1[q.2.2.2]? = some (.fieldLink (cN q.1) q.2.1 "java/lang/String" (fsN q.2.2.1).1 (fsN q.2.2.1).2) ∧ goodWord (.fieldLink (cN q.1) q.2.1 "java/lang/String" (fsN q.2.2.1).1 (fsN q.2.2.1).2) = true := by decide +kernel
set_option maxRecDepth 1000000 in
theorem ldL_ok : ∀ q ∈ ldL, tables_1[q.2.2.2]? = some (.constant (cN q.1) q.2.1 (Int32.ofInt q.2.2.1)) ∧ goodWord (.constant (cN q.1) q.2.1 (Int32.ofInt q.2.2.1)) = true := by decide +kernel
set_option maxRecDepth 1000000 in
theorem l2L_ok : ∀ q ∈ l2L, tables_1[q.2.2.2]? = some (.constantLong (cN q.1) q.2.1 (Int64.ofInt q.2.2.1)) ∧ goodWord (.constantLong (cN q.1) q.2.1 (Int64.ofInt q.2.2.1)) = true := by decide +kernel
set_option maxRecDepth 1000000 in
theorem nwL_ok : ∀ q ∈ nwL, q.2.2.1 < 13 ∧ tables_1[q.2.2.2.1]? = some (.classLink (cN q.1) q.2.1 (cN q.2.2.1)) ∧ tables_1[q.2.2.2.2.1]? = some (.instantiable (cN q.2.2.1) (nF q.2.2.1)) ∧ tables_1[q.2.2.2.2.2]? = some (.initialized (cN q.2.2.1)) := by decide +kernel
set_option maxRecDepth 1000000 in
theorem mlL_ok : ∀ q ∈ mlL, tables_1[q.2.2.2]? = some (.methodLink (cN q.1) q.2.1 (Y0 q.2.2.1).1) := by decide +kernel
set_option maxRecDepth 1000000 in
theorem mnL_ok : ∀ q ∈ mnL, (cN q.1, q.2.1, (Y0 q.2.2).1) ∈ nestL := by decide +kernel
set_option maxRecDepth 1000000 in
theorem oiL_ok : ∀ q ∈ oiL, tables_1[q.2.2]? = some (.methodLink (cN q.1) q.2.1 Lib.objectInit) := by decide +kernel
set_option maxRecDepth 1000000 in
theorem acL_ok : ∀ q ∈ acL, tables_1[q.2.2]? = some (.methodLink (cN q.1) q.2.1 arraycopyName) := by decide +kernel
set_option maxRecDepth 1000000 in
theorem vxL_ok : ∀ q ∈ vxL, cN q.1 = "EchoTuneLaw" ∧ tables_1[q.2.2]? = some (.methodLink "EchoTuneLaw" q.2.1 yVoice) := by decide +kernel
set_option maxRecDepth 1000000 in
theorem anL_ok : ∀ q ∈ anL, tables_1[q.2.2]? = some (.classLink (cN q.1) q.2.1 "EchoTune$State") := by decide +kernel
def gsN (v : Int) : String × String × String := if v = 1 then ("java/lang/String", "COMPACT_STRINGS", "Z") else ("jdk/internal/util/Preconditions", "SIOOBE_FORMATTER", "Ljava/util/function/BiFunction;")
set_option maxRecDepth 1000000 in
theorem gsL_ok : ∀ q ∈ gsL, (q.2.2.1 = 1 ∨ q.2.2.1 = -1) ∧ tables_1[q.2.2.2]? = some (.fieldLink (cN q.1) q.2.1 (gsN q.2.2.1).1 (gsN q.2.2.1).2.1 (gsN q.2.2.1).2.2) := by decide +kernel
set_option maxRecDepth 1000000 in
theorem pz_ok : tables_1[p_oi_in]? = some (.instanceMethod Lib.objectInit) ∧ tables_1[p_oi_co]? = some (.code Lib.objectInit ⟨#[0xb1]⟩ 1 none) ∧ tables_1[p_ac_na]? = some (.native arraycopyName) ∧ tables_1[p_ac_st]? = some (.static arraycopyName) ∧ tables_1[p_sy_in]? = some (.initialized "java/lang/System") ∧ tables_1[68]? = some (.arrayClass .byte) ∧ tables_1[155]? = some (.arrayClass .int) ∧ tables_1[351]? = some (.arrayClass .long) ∧ tables_1[1610]? = some (.arrayClass .boolean) := by decide +kernel
def mfR (m : Nat) : Nat × Nat × Nat × Nat × Nat := mfL.getD m (0, 0, 0, 0, 9)
/-- of a method: its code, its class, its way of being called -/
def mfOK (m : Nat) : Prop := (mfR m).2.2.2.2 = 9 ∨ (tables_1[(mfR m).1]? = some (.code (Y0 m).1 (Y0 m).2.1 (P0.1 m).1 (Y0 m).2.2) ∧ tables_1[(mfR m).2.1]? = some (.initialized (Y0 m).1.cls) ∧ plainFor (Y0 m).1 = true ∧ (P0.1 m).1 ≤ 41 ∧ (Y0 m).1.cls ≠ "java/lang/invoke/MethodHandle" ∧ (Y0 m).1.cls ≠ "java/lang/invoke/VarHandle" ∧
  (((mfR m).2.2.2.2 = 0 ∧ tables_1[(mfR m).2.2.1]? = some (.instanceMethod (Y0 m).1) ∧ lw_tbl[(mfR m).2.2.2.1]? = some (.selects (Y0 m).1.cls (Y0 m).1 (Y0 m).1) ∧ (Y0 m).1.name ≠ "<init>") ∨ ((mfR m).2.2.2.2 = 1 ∧ tables_1[(mfR m).2.2.1]? = some (.static (Y0 m).1) ∧ (Y0 m).1.name ≠ "<init>") ∨ ((mfR m).2.2.2.2 = 2 ∧ tables_1[(mfR m).2.2.1]? = some (.instanceMethod (Y0 m).1) ∧ (Y0 m).1.name = "<init>" ∧ (Y0 m).2.2 = none)))
