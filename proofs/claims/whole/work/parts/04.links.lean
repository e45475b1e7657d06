/-- the words that every method takes along -/
def q_gd : List Cond := lw_tbl.filter goodWord
theorem q_gd_in {w : Cond} (h : w ∈ lw_tbl) (hg : goodWord w = true) : w ∈ q_gd := List.mem_filter.mpr ⟨h, hg⟩
theorem q_gd_pos {w : Cond} (i : Nat) (h : lw_tbl[i]? = some w) (hg : goodWord w = true) : w ∈ q_gd := q_gd_in (List.mem_of_getElem? h) hg
theorem q_gd_good : ∀ w ∈ q_gd, goodWord w = true := fun _ h => (List.mem_filter.mp h).2
theorem q_gd_tbl : ∀ w ∈ q_gd, w ∈ lw_tbl := fun _ h => (List.mem_filter.mp h).1
theorem q_find {α : Type} {l : List (Nat × Nat × α)} {t i : Nat} {x : α} (h : (l.find? (fun e => e.1 == t && e.2.1 == i)).map (fun e => e.2.2) = some x) : (t, i, x) ∈ l := by
  cases hf : l.find? (fun e => e.1 == t && e.2.1 == i) with
  | none => rw [hf] at h; cases h
  | some e =>
    rw [hf] at h
    have h1 := List.find?_some hf
    have h2 := List.mem_of_find?_eq_some hf
    obtain ⟨a, b, y⟩ := e
    simp only [Bool.and_eq_true, beq_iff_eq] at h1
    obtain ⟨rfl, rfl⟩ := h1
    cases h
    exact h2
set_option maxRecDepth 100000 in
theorem q_fT_ok : ∀ e ∈ q_fT, lw_tbl[e.2.2.2.2]? = some (.fieldLink (q_cn e.1) e.2.1 (q_TT e.2.2.1 e.2.2.2.1).1 (q_TT e.2.2.1 e.2.2.2.1).2.1 (q_TT e.2.2.1 e.2.2.2.1).2.2.1) ∧ e.2.2.1 < 9 ∧ e.2.2.2.1 < q_NF e.2.2.1 := by decide +kernel
theorem q_f_ok {t i ci k p : Nat} (h : q_f t i = some (ci, k, p)) : Cond.fieldLink (q_cn t) i (q_TT ci k).1 (q_TT ci k).2.1 (q_TT ci k).2.2.1 ∈ q_gd ∧ ci < 9 ∧ k < q_NF ci := by
  obtain ⟨h1, h2⟩ := q_fT_ok _ (q_find h)
  exact ⟨q_gd_pos _ h1 rfl, h2⟩
def q_sfn (j : Nat) : String × String := if j = 0 then ("value", "[B") else ("coder", "B")
theorem q_sF_ok : ∀ e ∈ q_sF, lw_tbl[e.2.2.2]? = some (.fieldLink (q_cn e.1) e.2.1 "java/lang/String" (q_sfn e.2.2.1).1 (q_sfn e.2.2.1).2) := by decide +kernel
theorem q_sf_ok {t i j p : Nat} (h : q_sf t i = some (j, p)) : Cond.fieldLink (q_cn t) i "java/lang/String" (q_sfn j).1 (q_sfn j).2 ∈ q_gd := q_gd_pos _ (q_sF_ok _ (q_find h)) rfl
/-- the statics: EAST, KIND_ABOVE, COMPACT_STRINGS, SIOOBE_FORMATTER -/
def q_stn (j : Nat) : String × String × String := if j = 0 then ("ComesBack$Flight", "EAST", "[I") else if j = 1 then ("ComesBack$Toss", "KIND_ABOVE", "[I") else if j = 2 then ("java/lang/String", "COMPACT_STRINGS", "Z") else ("jdk/internal/util/Preconditions", "SIOOBE_FORMATTER", "Ljava/util/function/BiFunction;")
theorem q_sT_ok : ∀ e ∈ q_sT, e.2.2.1 < 4 ∧ lw_tbl[e.2.2.2]? = some (.fieldLink (q_cn e.1) e.2.1 (q_stn e.2.2.1).1 (q_stn e.2.2.1).2.1 (q_stn e.2.2.1).2.2) := by decide +kernel
theorem q_st_ok {t i j p : Nat} (h : q_st t i = some (j, p)) : j < 4 ∧ Cond.fieldLink (q_cn t) i (q_stn j).1 (q_stn j).2.1 (q_stn j).2.2 ∈ q_gd := ⟨(q_sT_ok _ (q_find h)).1, q_gd_pos _ (q_sT_ok _ (q_find h)).2 rfl⟩
theorem q_kI_ok : ∀ e ∈ q_kI, lw_tbl[e.2.2.2]? = some (.constant (q_cn e.1) e.2.1 e.2.2.1) := by decide +kernel
theorem q_ki_ok {t i p : Nat} {v : Int32} (h : q_ki t i = some (v, p)) : Cond.constant (q_cn t) i v ∈ q_gd := q_gd_pos _ (q_kI_ok _ (q_find h)) rfl
theorem q_kJ_ok : ∀ e ∈ q_kJ, lw_tbl[e.2.2.2]? = some (.constantLong (q_cn e.1) e.2.1 e.2.2.1) := by decide +kernel
theorem q_kj_ok {t i p : Nat} {v : Int64} (h : q_kj t i = some (v, p)) : Cond.constantLong (q_cn t) i v ∈ q_gd := q_gd_pos _ (q_kJ_ok _ (q_find h)) rfl
theorem q_nT_ok : ∀ e ∈ q_nT, lw_tbl[e.2.2.2.1]? = some (.classLink (q_cn e.1) e.2.1 (q_cn e.2.2.1)) ∧ lw_tbl[e.2.2.2.2.1]? = some (.instantiable (q_cn e.2.2.1) (q_NF e.2.2.1)) ∧ lw_tbl[e.2.2.2.2.2]? = some (.initialized (q_cn e.2.2.1)) ∧ e.2.2.1 < 9 := by decide +kernel
theorem q_nt_ok {t i ci p p2 p3 : Nat} (h : q_nt t i = some (ci, p, p2, p3)) : Cond.classLink (q_cn t) i (q_cn ci) ∈ q_gd ∧ Cond.instantiable (q_cn ci) (q_NF ci) ∈ q_gd ∧ Cond.initialized (q_cn ci) ∈ q_gd ∧ ci < 9 := by
  obtain ⟨h1, h2, h3, h4⟩ := q_nT_ok _ (q_find h)
  exact ⟨q_gd_pos _ h1 rfl, q_gd_pos _ h2 rfl, q_gd_pos _ h3 rfl, h4⟩
theorem q_mT_ok : ∀ e ∈ q_mT, lw_tbl[e.2.2]? = some (.classLink (q_cn e.1) e.2.1 "[[I") := by decide +kernel
theorem q_mt_ok {t i p : Nat} (h : q_mt t i = some p) : Cond.classLink (q_cn t) i "[[I" ∈ q_gd := q_gd_pos _ (q_mT_ok _ (q_find h)) rfl
/-- a method's name and code -/
abbrev q_y (M : Nat) : MethodName := (q_md M).1
abbrev q_b (M : Nat) : ByteArray := (q_md M).2.1
abbrev q_ml (M : Nat) : Nat := (q_md M).2.2.1
abbrev q_rt (M : Nat) : Option FieldType := (q_md M).2.2.2.1
def q_mok (M : Nat) : Prop := Cond.code (q_y M) (q_b M) (q_ml M) (q_rt M) ∈ q_gd ∧ q_ml M ≤ 40 ∧ (q_y M).cls = q_cn (M / 1000) ∧ plainFor (q_y M) = true ∧ (q_y M).cls ≠ "java/lang/invoke/MethodHandle" ∧ (q_y M).cls ≠ "java/lang/invoke/VarHandle"
def q_mcheck (M : Nat) : Bool := decide (q_ml M ≤ 40 ∧ (q_y M).cls = q_cn (M / 1000) ∧ plainFor (q_y M) = true ∧ (q_y M).cls ≠ "java/lang/invoke/MethodHandle" ∧ (q_y M).cls ≠ "java/lang/invoke/VarHandle")
theorem q_mok_of {M i : Nat} (hw : lw_tbl[i]? = some (Cond.code (q_y M) (q_b M) (q_ml M) (q_rt M))) (h : q_mcheck M = true) : q_mok M := by
  have h := of_decide_eq_true h
  exact ⟨q_gd_pos _ hw rfl, h⟩
def q_ccheck (e : Nat × Nat × Nat × Nat × Nat × Nat × Nat × Nat × Nat) : Bool := match e with
  | (t, i, md, M, n, p1, p2, p3, p4) =>
    if md = 4 then decide (lw_tbl[p1]? = some (.methodLink (q_cn t) i Lib.objectInit))
    else if md = 5 then decide (lw_tbl[p1]? = some (.methodLink (q_cn t) i arraycopyName))
    else decide ((parseMethodDescriptor (q_y M).desc).map (fun d => d.parameters.length) = some n) && decide (lw_tbl[p3]? = some (.initialized (q_y M).cls)) &&
      (if md = 0 then decide (lw_tbl[p1]? = some (.methodLink (q_cn t) i (q_y M)) ∧ lw_tbl[p2]? = some (.static (q_y M)))
       else if md = 1 then decide (lw_tbl[p1]? = some (.methodLink (q_cn t) i (q_y M)) ∧ lw_tbl[p2]? = some (.instanceMethod (q_y M)) ∧ lw_tbl[p4]? = some (.selects (q_y M).cls (q_y M) (q_y M)))
       else if md = 2 then decide (lw_tbl[p1]? = some (.methodLink (q_cn t) i (q_y M)) ∧ lw_tbl[p2]? = some (.instanceMethod (q_y M)) ∧ (q_y M).name = "<init>" ∧ q_rt M = none)
       else decide (lw_tbl[p1]? = some (.methodLinkNest (q_cn t) i (q_y M) "ComesBack") ∧ lw_tbl[p2]? = some (.instanceMethod (q_y M)) ∧ (q_y M).name = "<init>" ∧ q_rt M = none))
