/-! person, walks -/
abbrev p_spot (x y : Int32) : Prop := (-4000 ≤ x ∧ x ≤ 4000) ∧ -4000 ≤ y ∧ y ≤ 4000
def t_person (M : Nat → Nat → Int32) (x y : Int32) : Nat → Nat → Int32 := if p_spot x y then (if p_ppl M = 6 then M else q_up (q_up (q_up M 150 (p_ppl M) x) 151 (p_ppl M) y) 135 18 (Int32.ofNat (p_ppl M + 1))) else M
def a_person (M : Nat → Nat → Int32) (x y : Int32) : Int32 := if p_spot x y then (if p_ppl M = 6 then -4 else Int32.ofNat (p_ppl M)) else -2
section
variable {d c L n : Nat} {Q : Option Value → q_H → Prop} {I M : Nat → Nat → Int32} {r : Nat → Nat → Option Nat} {dk : Nat → Nat × Nat}
theorem s_isPlace {a : Nat} {h : q_H} {x y : Int32} : q_wp (d + 1) c 2001 0 [.ref a, .int x, .int y] [] h Q = Q (some (.int (if p_spot x y then 1 else 0))) h := by
  simp (disch := omega) only [r2001_0, r2001_1, r2001_4, r2001_7, r2001_8, r2001_11, r2001_14, r2001_15, r2001_18, r2001_21, r2001_22, r2001_25, r2001_28, r2001_29, r2001_32, r2001_33, p_spot, b_eq0, b_eq1, b_0eq, ite_not, not_true_eq_false, not_false_eq_true, ↓reduceIte, va_rf_some, va_rf_none, cat_int, cat_ref, cat_null, cat_jk, q_cs_nil, q_cs_int, q_cs_ref, q_cs_long, q_tl_some, q_tl_none, nz_0, nz_1, nzn_0, nzn_1, nz_b, true_and, and_true, Nat.reduceLeDiff, Nat.reduceAdd, l_0, l_1, l_2, l_3, l_4, l_5, l_6, l_7, l_8, l_9, l_10, l_11, l_12, l_13, l_14, l_15, l_16, l_17, l_18, l_19, l_20, l_24, l_32, l_40, l_41, l_42, l_43, l_45, l_48, l_57, l_59, l_60, l_61, l_63, l_64, l_80, l_96, l_97, l_99, l_100, l_122, l_160, l_200, l_320, l_640, l_999, l_1000, l_1200, l_4000, l_99999, l_100000, l_100001, l_100002, l_100006, l_100010, l_252645135, l_858993459, l_1431655765, n_cl, n_lt, n_le, n_eq, n_in, n_add, n_mul, n_sub, n_div, n_mod, n_addneg, n_negl, n_nege, Nat.add_sub_cancel, d_ltT, d_ltF, d_leT, d_leF, d_eqT, d_eqF, ↓reduceIte, Nat.reduceLeDiff, Nat.reduceAdd, Nat.reduceMul, Nat.reduceSub, Nat.reduceLT, Nat.zero_add, Nat.add_zero, not_false_eq_true]
  by_cases h1 : -Int32.ofNat 4000 ≤ x
  · rw [if_neg (Int32.not_lt.2 h1)]
    by_cases h2 : x ≤ Int32.ofNat 4000
    · rw [if_neg (Int32.not_lt.2 h2)]
      by_cases h3 : -Int32.ofNat 4000 ≤ y
      · rw [if_neg (Int32.not_lt.2 h3)]
        by_cases h4 : y ≤ Int32.ofNat 4000
        · rw [if_neg (Int32.not_lt.2 h4), if_pos ⟨⟨h1, h2⟩, h3, h4⟩]
        · rw [if_pos (Int32.not_le.1 h4), if_neg fun h => h4 h.2.2]
      · rw [if_pos (Int32.not_le.1 h3), if_neg fun h => h3 h.2.1]
    · rw [if_pos (Int32.not_le.1 h2), if_neg fun h => h2 h.1.2]
  · rw [if_pos (Int32.not_le.1 h1), if_neg fun h => h1 h.1.1]
theorem m_isSpot {h : q_H} {x y : Int32} : q_wp (d + 2) c 8078 0 [.int x, .int y] [] h Q = Q (some (.int (if p_spot x y then 1 else 0))) h := by
  simp (disch := omega) only [r8078_0, r8078_1, r8078_4, r8078_7, r8078_10, r8078_13, r8078_14, r8078_17, r8078_20, r8078_23, r8078_26, r8078_27, r8078_30, r8078_31, m_in, p_spot, b_eq0, b_eq1, b_0eq, ite_not, not_true_eq_false, not_false_eq_true, ↓reduceIte, va_rf_some, va_rf_none, cat_int, cat_ref, cat_null, cat_jk, q_cs_nil, q_cs_int, q_cs_ref, q_cs_long, q_tl_some, q_tl_none, nz_0, nz_1, nzn_0, nzn_1, nz_b, true_and, and_true, Nat.reduceLeDiff, Nat.reduceAdd, l_0, l_1, l_2, l_3, l_4, l_5, l_6, l_7, l_8, l_9, l_10, l_11, l_12, l_13, l_14, l_15, l_16, l_17, l_18, l_19, l_20, l_24, l_32, l_40, l_41, l_42, l_43, l_45, l_48, l_57, l_59, l_60, l_61, l_63, l_64, l_80, l_96, l_97, l_99, l_100, l_122, l_160, l_200, l_320, l_640, l_999, l_1000, l_1200, l_4000, l_99999, l_100000, l_100001, l_100002, l_100006, l_100010, l_252645135, l_858993459, l_1431655765, n_cl, n_lt, n_le, n_eq, n_in, n_add, n_mul, n_sub, n_div, n_mod, n_addneg, n_negl, n_nege, Nat.add_sub_cancel, d_ltT, d_ltF, d_leT, d_leF, d_eqT, d_eqF, ↓reduceIte, Nat.reduceLeDiff, Nat.reduceAdd, Nat.reduceMul, Nat.reduceSub, Nat.reduceLT, Nat.zero_add, Nat.add_zero, not_false_eq_true]
  by_cases h1 : -Int32.ofNat 4000 ≤ x ∧ x ≤ Int32.ofNat 4000
  · by_cases h2 : -Int32.ofNat 4000 ≤ y ∧ y ≤ Int32.ofNat 4000
    · rw [if_pos h1, if_pos h2, if_pos ⟨h1, h2⟩]
    · rw [if_pos h1, if_neg h2, if_neg fun h => h2 h.2]
  · rw [if_neg h1, if_neg fun h => h1 h.1]
end
