/-! what is read off a flight of the class -/
def p_it (g : Nat → Int32 → Int32) (a : Int32) : Nat → Int32
  | 0 => a
  | k + 1 => g k (p_it g a k)
/-- the first place from k on, of m, with P; or -1 -/
def p_find (P : Nat → Bool) : Nat → Nat → Int32
  | 0, _ => -1
  | m + 1, k => if P k = true then Int32.ofNat k else p_find P m (k + 1)
def p_abs (x : Int32) : Int32 := if x < 0 then -x else x
def p_gmax (f : Nat → Int32) (k : Nat) (a : Int32) : Int32 := if a < f k then f k else a
def p_gmin (f : Nat → Int32) (k : Nat) (a : Int32) : Int32 := if f k < a then f k else a
def p_glev (R : Nat → Nat → Int32) (k : Nat) (a : Int32) : Int32 := if 0 < R (k + 1) 2 ∧ R (k + 1) 2 = R k 2 then a + 1 else a
def p_gtrn (R : Nat → Nat → Int32) (k : Nat) (a : Int32) : Int32 := a + ((R (k + 1) 3 - R k 3 + 96) % 64 - 32)
def p_gcl (R : Nat → Nat → Int32) (k : Nat) (a : Int32) : Int32 := if R k 2 < R (k + 1) 2 then Int32.ofNat (k + 1) else a
def p_gdr (R : Nat → Nat → Int32) (k : Nat) (a : Int32) : Int32 := if a < R k 2 - R (k + 1) 2 then R k 2 - R (k + 1) 2 else a
theorem k_46 {L j : Nat} {r : Nat → Nat → Option Nat} {dk : Nat → Nat × Nat} (hj : j < 7) : p_R r 46 j = some (47 + j) ∧ p_K L dk (47 + j) = (100, 41) := by
  have : j = 0 ∨ j = 1 ∨ j = 2 ∨ j = 3 ∨ j = 4 ∨ j = 5 ∨ j = 6 := by omega
  rcases this with rfl | rfl | rfl | rfl | rfl | rfl | rfl <;> exact ⟨rfl, rfl⟩
section
variable {d c L n : Nat} {Q : Option Value → q_H → Prop} {I R : Nat → Nat → Int32} {r : Nat → Nat → Option Nat} {dk : Nat → Nat × Nat}
theorem s_farOff (hF : p_fd I R) {k : Nat} (hk : k ≤ p_last R) : q_wp (d + 1) c 10 0 [.ref 45, .int (Int32.ofNat k)] [] (p_h L I r dk n) Q = Q (some (.int (p_off (R k)))) (p_h L I r dk n) := by
  have hl := p_last_le R
  have x0 : I 47 k = R k 0 := hF.2 k hk 0 (by omega)
  have x1 : I 48 k = R k 1 := hF.2 k hk 1 (by omega)
  simp (disch := omega) only [r10_0, r10_1, r10_4, r10_5, r10_6, r10_7, r10_8, r10_9, r10_12, r10_13, r10_14, r10_15, r10_16, r10_17, r10_18, r10_21, r10_22, r10_23, r10_24, r10_25, r10_26, r10_29, r10_30, r10_31, r10_32, r10_33, r10_34, r10_35, va_rf_some, va_rf_none, cat_int, cat_ref, cat_null, cat_jk, q_cs_nil, q_cs_int, q_cs_ref, q_cs_long, q_tl_some, q_tl_none, nz_0, nz_1, nzn_0, nzn_1, nz_b, true_and, and_true, Nat.reduceLeDiff, Nat.reduceAdd, l_0, l_1, l_2, l_3, l_4, l_5, l_6, l_7, l_8, l_9, l_10, l_11, l_12, l_13, l_14, l_15, l_16, l_17, l_18, l_19, l_20, l_24, l_32, l_40, l_41, l_42, l_43, l_45, l_48, l_57, l_59, l_60, l_61, l_63, l_64, l_80, l_96, l_97, l_99, l_100, l_122, l_160, l_200, l_320, l_640, l_999, l_1000, l_1200, l_4000, l_99999, l_100000, l_100001, l_100002, l_100006, l_100010, l_252645135, l_858993459, l_1431655765, n_cl, n_lt, n_le, n_eq, n_in, n_add, n_mul, n_sub, n_div, n_mod, n_addneg, n_negl, n_nege, Nat.add_sub_cancel, d_ltT, d_ltF, d_leT, d_leF, d_eqT, d_eqF, ↓reduceIte, Nat.reduceLeDiff, Nat.reduceAdd, Nat.reduceMul, Nat.reduceSub, Nat.reduceLT, Nat.zero_add, Nat.add_zero, not_false_eq_true, pK_45, pK_46, pK_47, pK_48, pK_49, pK_50, pK_51, pK_52, pK_53, pK_54, pK_55, pK_56, pR_45_0, pR_45_10, pR_45_11, pR_45_12, pR_46_0, pR_46_1, pR_46_2, pR_46_3, pR_46_4, pR_46_5, pR_46_6, pR_45_2, pR_45_3, pR_45_4, x0, x1]
  rfl
theorem s_down (hF : p_fd I R) : q_wp (d + 1) c 9 0 [.ref 45] [] (p_h L I r dk n) Q = Q (some (.int (if R (p_last R) 2 = 0 then 1 else 0))) (p_h L I r dk n) :=
  s_isDown (.inl rfl) hF.1 (p_last_le R) (hF.2 _ (Nat.le_refl _) 2 (by omega))
/-- whether it comes back within r -/
abbrev p_bk (R : Nat → Nat → Int32) (x : Int32) : Prop := R (p_last R) 2 = 0 ∧ p_off (R (p_last R)) ≤ x * x
theorem s_returns (hF : p_fd I R) {x : Int32} [Decidable (p_bk R x)] : q_wp (d + 2) c 11 0 [.ref 45, .int x] [] (p_h L I r dk n) Q = Q (some (.int (if p_bk R x then 1 else 0))) (p_h L I r dk n) := by
  have hl := p_last_le R
  simp (disch := omega) only [r11_0, r11_1, r11_4, r11_7, r11_8, r11_9, r11_12, r11_15, r11_16, r11_17, r11_18, r11_21, r11_22, r11_25, r11_26, s_down hF, s_farOff hF (Nat.le_refl _), va_rf_some, va_rf_none, cat_int, cat_ref, cat_null, cat_jk, q_cs_nil, q_cs_int, q_cs_ref, q_cs_long, q_tl_some, q_tl_none, nz_0, nz_1, nzn_0, nzn_1, nz_b, true_and, and_true, Nat.reduceLeDiff, Nat.reduceAdd, l_0, l_1, l_2, l_3, l_4, l_5, l_6, l_7, l_8, l_9, l_10, l_11, l_12, l_13, l_14, l_15, l_16, l_17, l_18, l_19, l_20, l_24, l_32, l_40, l_41, l_42, l_43, l_45, l_48, l_57, l_59, l_60, l_61, l_63, l_64, l_80, l_96, l_97, l_99, l_100, l_122, l_160, l_200, l_320, l_640, l_999, l_1000, l_1200, l_4000, l_99999, l_100000, l_100001, l_100002, l_100006, l_100010, l_252645135, l_858993459, l_1431655765, n_cl, n_lt, n_le, n_eq, n_in, n_add, n_mul, n_sub, n_div, n_mod, n_addneg, n_negl, n_nege, Nat.add_sub_cancel, d_ltT, d_ltF, d_leT, d_leF, d_eqT, d_eqF, ↓reduceIte, Nat.reduceLeDiff, Nat.reduceAdd, Nat.reduceMul, Nat.reduceSub, Nat.reduceLT, Nat.zero_add, Nat.add_zero, not_false_eq_true, pK_45, pK_46, pK_47, pK_48, pK_49, pK_50, pK_51, pK_52, pK_53, pK_54, pK_55, pK_56, pR_45_0, pR_45_10, pR_45_11, pR_45_12, pR_46_0, pR_46_1, pR_46_2, pR_46_3, pR_46_4, pR_46_5, pR_46_6, pR_45_2, pR_45_3, pR_45_4, hF.1, b_eq0, ite_not]
  by_cases h1 : R (p_last R) 2 = Int32.ofNat 0
  · by_cases h2 : p_off (R (p_last R)) ≤ x * x
    · rw [if_pos h1, if_neg (Int32.not_lt.2 h2), if_pos ⟨h1, h2⟩]
    · rw [if_pos h1, if_pos (Int32.not_le.1 h2), if_neg fun h => h2 h.2]
  · rw [if_neg h1, if_neg fun h => h1 h.1]
theorem s_farthest_loop (hF : p_fd I R)   : ∀ (m k : Nat), k + m = p_last R + 1 → q_wp (d + 2) c 12 4 [.ref 45, .int (p_it (p_gmax fun k => p_off (R k)) 0 k), .int (Int32.ofNat k)] [] (p_h L I r dk n) Q = Q (some (.int (p_it (p_gmax fun k => p_off (R k)) 0 (p_last R + 1)))) (p_h L I r dk n)
  | 0, k, hk => by
    have hl := p_last_le R
    have e1 := hF.1
    obtain rfl : k = p_last R + 1 := hk
    rw [r12_4]
    simp (disch := omega) only [r12_5, r12_6, r12_9, r12_28, r12_29, va_rf_some, va_rf_none, cat_int, cat_ref, cat_null, cat_jk, q_cs_nil, q_cs_int, q_cs_ref, q_cs_long, q_tl_some, q_tl_none, nz_0, nz_1, nzn_0, nzn_1, nz_b, true_and, and_true, Nat.reduceLeDiff, Nat.reduceAdd, l_0, l_1, l_2, l_3, l_4, l_5, l_6, l_7, l_8, l_9, l_10, l_11, l_12, l_13, l_14, l_15, l_16, l_17, l_18, l_19, l_20, l_24, l_32, l_40, l_41, l_42, l_43, l_45, l_48, l_57, l_59, l_60, l_61, l_63, l_64, l_80, l_96, l_97, l_99, l_100, l_122, l_160, l_200, l_320, l_640, l_999, l_1000, l_1200, l_4000, l_99999, l_100000, l_100001, l_100002, l_100006, l_100010, l_252645135, l_858993459, l_1431655765, n_cl, n_lt, n_le, n_eq, n_in, n_add, n_mul, n_sub, n_div, n_mod, n_addneg, n_negl, n_nege, Nat.add_sub_cancel, d_ltT, d_ltF, d_leT, d_leF, d_eqT, d_eqF, ↓reduceIte, Nat.reduceLeDiff, Nat.reduceAdd, Nat.reduceMul, Nat.reduceSub, Nat.reduceLT, Nat.zero_add, Nat.add_zero, not_false_eq_true, pK_45, pK_46, pK_47, pK_48, pK_49, pK_50, pK_51, pK_52, pK_53, pK_54, pK_55, pK_56, pR_45_0, pR_45_10, pR_45_11, pR_45_12, pR_46_0, pR_46_1, pR_46_2, pR_46_3, pR_46_4, pR_46_5, pR_46_6, pR_45_2, pR_45_3, pR_45_4, e1]
  | m + 1, k, hk => by
    have hl := p_last_le R
    have e1 := hF.1
    refine Eq.trans ?_ (s_farthest_loop hF  m (k + 1) (by omega))
    rw [r12_4]
    simp (disch := omega) only [r12_5, r12_6, r12_9, r12_12, r12_13, r12_14, r12_15, r12_18, r12_21, r12_22, r12_25, va_rf_some, va_rf_none, cat_int, cat_ref, cat_null, cat_jk, q_cs_nil, q_cs_int, q_cs_ref, q_cs_long, q_tl_some, q_tl_none, nz_0, nz_1, nzn_0, nzn_1, nz_b, true_and, and_true, Nat.reduceLeDiff, Nat.reduceAdd, l_0, l_1, l_2, l_3, l_4, l_5, l_6, l_7, l_8, l_9, l_10, l_11, l_12, l_13, l_14, l_15, l_16, l_17, l_18, l_19, l_20, l_24, l_32, l_40, l_41, l_42, l_43, l_45, l_48, l_57, l_59, l_60, l_61, l_63, l_64, l_80, l_96, l_97, l_99, l_100, l_122, l_160, l_200, l_320, l_640, l_999, l_1000, l_1200, l_4000, l_99999, l_100000, l_100001, l_100002, l_100006, l_100010, l_252645135, l_858993459, l_1431655765, n_cl, n_lt, n_le, n_eq, n_in, n_add, n_mul, n_sub, n_div, n_mod, n_addneg, n_negl, n_nege, Nat.add_sub_cancel, d_ltT, d_ltF, d_leT, d_leF, d_eqT, d_eqF, ↓reduceIte, Nat.reduceLeDiff, Nat.reduceAdd, Nat.reduceMul, Nat.reduceSub, Nat.reduceLT, Nat.zero_add, Nat.add_zero, not_false_eq_true, pK_45, pK_46, pK_47, pK_48, pK_49, pK_50, pK_51, pK_52, pK_53, pK_54, pK_55, pK_56, pR_45_0, pR_45_10, pR_45_11, pR_45_12, pR_46_0, pR_46_1, pR_46_2, pR_46_3, pR_46_4, pR_46_5, pR_46_6, pR_45_2, pR_45_3, pR_45_4, e1, s_farOff hF (show k ≤ p_last R by omega), s_max]
    rfl
theorem s_farthest (hF : p_fd I R)   : q_wp (d + 2) c 12 0 [.ref 45, q_jk, q_jk] [] (p_h L I r dk n) Q = Q (some (.int (p_it (p_gmax fun k => p_off (R k)) 0 (p_last R + 1)))) (p_h L I r dk n) := by
  refine Eq.trans ?_ (s_farthest_loop (d := d) (c := c) hF  (p_last R + 1) 0 (by omega))
  simp (disch := omega) only [r12_0, r12_1, r12_2, r12_3, va_rf_some, va_rf_none, cat_int, cat_ref, cat_null, cat_jk, q_cs_nil, q_cs_int, q_cs_ref, q_cs_long, q_tl_some, q_tl_none, nz_0, nz_1, nzn_0, nzn_1, nz_b, true_and, and_true, Nat.reduceLeDiff, Nat.reduceAdd, l_0, l_1, l_2, l_3, l_4, l_5, l_6, l_7, l_8, l_9, l_10, l_11, l_12, l_13, l_14, l_15, l_16, l_17, l_18, l_19, l_20, l_24, l_32, l_40, l_41, l_42, l_43, l_45, l_48, l_57, l_59, l_60, l_61, l_63, l_64, l_80, l_96, l_97, l_99, l_100, l_122, l_160, l_200, l_320, l_640, l_999, l_1000, l_1200, l_4000, l_99999, l_100000, l_100001, l_100002, l_100006, l_100010, l_252645135, l_858993459, l_1431655765, n_cl, n_lt, n_le, n_eq, n_in, n_add, n_mul, n_sub, n_div, n_mod, n_addneg, n_negl, n_nege, Nat.add_sub_cancel, d_ltT, d_ltF, d_leT, d_leF, d_eqT, d_eqF, ↓reduceIte, Nat.reduceLeDiff, Nat.reduceAdd, Nat.reduceMul, Nat.reduceSub, Nat.reduceLT, Nat.zero_add, Nat.add_zero, not_false_eq_true, pK_45, pK_46, pK_47, pK_48, pK_49, pK_50, pK_51, pK_52, pK_53, pK_54, pK_55, pK_56, pR_45_0, pR_45_10, pR_45_11, pR_45_12, pR_46_0, pR_46_1, pR_46_2, pR_46_3, pR_46_4, pR_46_5, pR_46_6, pR_45_2, pR_45_3, pR_45_4]
  rfl
theorem s_greatest_loop (hF : p_fd I R) {row : Nat} (hrow : row < 7) : ∀ (m k : Nat), k + m = p_last R → q_wp (d + 2) c 13 11 [.ref 45, .int (Int32.ofNat row), .int (p_it (p_gmax fun k => R (k + 1) row) (R 0 row) k), .int (Int32.ofNat (k + 1))] [] (p_h L I r dk n) Q = Q (some (.int (p_it (p_gmax fun k => R (k + 1) row) (R 0 row) (p_last R)))) (p_h L I r dk n)
  | 0, k, hk => by
    have hl := p_last_le R
    have e1 := hF.1
    obtain rfl : k = p_last R := hk
    rw [r13_11]
    simp (disch := omega) only [r13_12, r13_13, r13_16, r13_38, r13_39, va_rf_some, va_rf_none, cat_int, cat_ref, cat_null, cat_jk, q_cs_nil, q_cs_int, q_cs_ref, q_cs_long, q_tl_some, q_tl_none, nz_0, nz_1, nzn_0, nzn_1, nz_b, true_and, and_true, Nat.reduceLeDiff, Nat.reduceAdd, l_0, l_1, l_2, l_3, l_4, l_5, l_6, l_7, l_8, l_9, l_10, l_11, l_12, l_13, l_14, l_15, l_16, l_17, l_18, l_19, l_20, l_24, l_32, l_40, l_41, l_42, l_43, l_45, l_48, l_57, l_59, l_60, l_61, l_63, l_64, l_80, l_96, l_97, l_99, l_100, l_122, l_160, l_200, l_320, l_640, l_999, l_1000, l_1200, l_4000, l_99999, l_100000, l_100001, l_100002, l_100006, l_100010, l_252645135, l_858993459, l_1431655765, n_cl, n_lt, n_le, n_eq, n_in, n_add, n_mul, n_sub, n_div, n_mod, n_addneg, n_negl, n_nege, Nat.add_sub_cancel, d_ltT, d_ltF, d_leT, d_leF, d_eqT, d_eqF, ↓reduceIte, Nat.reduceLeDiff, Nat.reduceAdd, Nat.reduceMul, Nat.reduceSub, Nat.reduceLT, Nat.zero_add, Nat.add_zero, not_false_eq_true, pK_45, pK_46, pK_47, pK_48, pK_49, pK_50, pK_51, pK_52, pK_53, pK_54, pK_55, pK_56, pR_45_0, pR_45_10, pR_45_11, pR_45_12, pR_46_0, pR_46_1, pR_46_2, pR_46_3, pR_46_4, pR_46_5, pR_46_6, pR_45_2, pR_45_3, pR_45_4, e1]
  | m + 1, k, hk => by
    have hl := p_last_le R
    have e1 := hF.1
    obtain ⟨w1, w2⟩ := k_46 (L := L) (r := r) (dk := dk) hrow
    have x : I (47 + row) (k + 1) = R (k + 1) row := hF.2 (k + 1) (by omega) row hrow
    refine Eq.trans ?_ (s_greatest_loop hF hrow m (k + 1) (by omega))
    rw [r13_11]
    simp (disch := omega) only [r13_12, r13_13, r13_16, r13_19, r13_20, r13_21, r13_24, r13_25, r13_26, r13_27, r13_28, r13_31, r13_32, r13_35, va_rf_some, va_rf_none, cat_int, cat_ref, cat_null, cat_jk, q_cs_nil, q_cs_int, q_cs_ref, q_cs_long, q_tl_some, q_tl_none, nz_0, nz_1, nzn_0, nzn_1, nz_b, true_and, and_true, Nat.reduceLeDiff, Nat.reduceAdd, l_0, l_1, l_2, l_3, l_4, l_5, l_6, l_7, l_8, l_9, l_10, l_11, l_12, l_13, l_14, l_15, l_16, l_17, l_18, l_19, l_20, l_24, l_32, l_40, l_41, l_42, l_43, l_45, l_48, l_57, l_59, l_60, l_61, l_63, l_64, l_80, l_96, l_97, l_99, l_100, l_122, l_160, l_200, l_320, l_640, l_999, l_1000, l_1200, l_4000, l_99999, l_100000, l_100001, l_100002, l_100006, l_100010, l_252645135, l_858993459, l_1431655765, n_cl, n_lt, n_le, n_eq, n_in, n_add, n_mul, n_sub, n_div, n_mod, n_addneg, n_negl, n_nege, Nat.add_sub_cancel, d_ltT, d_ltF, d_leT, d_leF, d_eqT, d_eqF, ↓reduceIte, Nat.reduceLeDiff, Nat.reduceAdd, Nat.reduceMul, Nat.reduceSub, Nat.reduceLT, Nat.zero_add, Nat.add_zero, not_false_eq_true, pK_45, pK_46, pK_47, pK_48, pK_49, pK_50, pK_51, pK_52, pK_53, pK_54, pK_55, pK_56, pR_45_0, pR_45_10, pR_45_11, pR_45_12, pR_46_0, pR_46_1, pR_46_2, pR_46_3, pR_46_4, pR_46_5, pR_46_6, pR_45_2, pR_45_3, pR_45_4, e1, w1, w2, s_max, x]
    rfl
theorem s_greatest (hF : p_fd I R) {row : Nat} (hrow : row < 7) : q_wp (d + 2) c 13 0 [.ref 45, .int (Int32.ofNat row), q_jk, q_jk] [] (p_h L I r dk n) Q = Q (some (.int (p_it (p_gmax fun k => R (k + 1) row) (R 0 row) (p_last R)))) (p_h L I r dk n) := by
  obtain ⟨w1, w2⟩ := k_46 (L := L) (r := r) (dk := dk) hrow
  have x0 : I (47 + row) 0 = R 0 row := hF.2 0 (by omega) row hrow
  have hl := p_last_le R
  refine Eq.trans ?_ (s_greatest_loop (d := d) (c := c) hF hrow (p_last R) 0 (by omega))
  simp (disch := omega) only [r13_0, r13_1, r13_4, r13_5, r13_6, r13_7, r13_8, r13_9, r13_10, va_rf_some, va_rf_none, cat_int, cat_ref, cat_null, cat_jk, q_cs_nil, q_cs_int, q_cs_ref, q_cs_long, q_tl_some, q_tl_none, nz_0, nz_1, nzn_0, nzn_1, nz_b, true_and, and_true, Nat.reduceLeDiff, Nat.reduceAdd, l_0, l_1, l_2, l_3, l_4, l_5, l_6, l_7, l_8, l_9, l_10, l_11, l_12, l_13, l_14, l_15, l_16, l_17, l_18, l_19, l_20, l_24, l_32, l_40, l_41, l_42, l_43, l_45, l_48, l_57, l_59, l_60, l_61, l_63, l_64, l_80, l_96, l_97, l_99, l_100, l_122, l_160, l_200, l_320, l_640, l_999, l_1000, l_1200, l_4000, l_99999, l_100000, l_100001, l_100002, l_100006, l_100010, l_252645135, l_858993459, l_1431655765, n_cl, n_lt, n_le, n_eq, n_in, n_add, n_mul, n_sub, n_div, n_mod, n_addneg, n_negl, n_nege, Nat.add_sub_cancel, d_ltT, d_ltF, d_leT, d_leF, d_eqT, d_eqF, ↓reduceIte, Nat.reduceLeDiff, Nat.reduceAdd, Nat.reduceMul, Nat.reduceSub, Nat.reduceLT, Nat.zero_add, Nat.add_zero, not_false_eq_true, pK_45, pK_46, pK_47, pK_48, pK_49, pK_50, pK_51, pK_52, pK_53, pK_54, pK_55, pK_56, pR_45_0, pR_45_10, pR_45_11, pR_45_12, pR_46_0, pR_46_1, pR_46_2, pR_46_3, pR_46_4, pR_46_5, pR_46_6, pR_45_2, pR_45_3, pR_45_4, w1, w2, x0]
  rfl
theorem s_smallest_loop (hF : p_fd I R) {row : Nat} (hrow : row < 7) : ∀ (m k : Nat), k + m = p_last R → q_wp (d + 2) c 14 11 [.ref 45, .int (Int32.ofNat row), .int (p_it (p_gmin fun k => R (k + 1) row) (R 0 row) k), .int (Int32.ofNat (k + 1))] [] (p_h L I r dk n) Q = Q (some (.int (p_it (p_gmin fun k => R (k + 1) row) (R 0 row) (p_last R)))) (p_h L I r dk n)
  | 0, k, hk => by
    have hl := p_last_le R
    have e1 := hF.1
    obtain rfl : k = p_last R := hk
    rw [r14_11]
    simp (disch := omega) only [r14_12, r14_13, r14_16, r14_38, r14_39, va_rf_some, va_rf_none, cat_int, cat_ref, cat_null, cat_jk, q_cs_nil, q_cs_int, q_cs_ref, q_cs_long, q_tl_some, q_tl_none, nz_0, nz_1, nzn_0, nzn_1, nz_b, true_and, and_true, Nat.reduceLeDiff, Nat.reduceAdd, l_0, l_1, l_2, l_3, l_4, l_5, l_6, l_7, l_8, l_9, l_10, l_11, l_12, l_13, l_14, l_15, l_16, l_17, l_18, l_19, l_20, l_24, l_32, l_40, l_41, l_42, l_43, l_45, l_48, l_57, l_59, l_60, l_61, l_63, l_64, l_80, l_96, l_97, l_99, l_100, l_122, l_160, l_200, l_320, l_640, l_999, l_1000, l_1200, l_4000, l_99999, l_100000, l_100001, l_100002, l_100006, l_100010, l_252645135, l_858993459, l_1431655765, n_cl, n_lt, n_le, n_eq, n_in, n_add, n_mul, n_sub, n_div, n_mod, n_addneg, n_negl, n_nege, Nat.add_sub_cancel, d_ltT, d_ltF, d_leT, d_leF, d_eqT, d_eqF, ↓reduceIte, Nat.reduceLeDiff, Nat.reduceAdd, Nat.reduceMul, Nat.reduceSub, Nat.reduceLT, Nat.zero_add, Nat.add_zero, not_false_eq_true, pK_45, pK_46, pK_47, pK_48, pK_49, pK_50, pK_51, pK_52, pK_53, pK_54, pK_55, pK_56, pR_45_0, pR_45_10, pR_45_11, pR_45_12, pR_46_0, pR_46_1, pR_46_2, pR_46_3, pR_46_4, pR_46_5, pR_46_6, pR_45_2, pR_45_3, pR_45_4, e1]
  | m + 1, k, hk => by
    have hl := p_last_le R
    have e1 := hF.1
    obtain ⟨w1, w2⟩ := k_46 (L := L) (r := r) (dk := dk) hrow
    have x : I (47 + row) (k + 1) = R (k + 1) row := hF.2 (k + 1) (by omega) row hrow
    refine Eq.trans ?_ (s_smallest_loop hF hrow m (k + 1) (by omega))
    rw [r14_11]
    simp (disch := omega) only [r14_12, r14_13, r14_16, r14_19, r14_20, r14_21, r14_24, r14_25, r14_26, r14_27, r14_28, r14_31, r14_32, r14_35, va_rf_some, va_rf_none, cat_int, cat_ref, cat_null, cat_jk, q_cs_nil, q_cs_int, q_cs_ref, q_cs_long, q_tl_some, q_tl_none, nz_0, nz_1, nzn_0, nzn_1, nz_b, true_and, and_true, Nat.reduceLeDiff, Nat.reduceAdd, l_0, l_1, l_2, l_3, l_4, l_5, l_6, l_7, l_8, l_9, l_10, l_11, l_12, l_13, l_14, l_15, l_16, l_17, l_18, l_19, l_20, l_24, l_32, l_40, l_41, l_42, l_43, l_45, l_48, l_57, l_59, l_60, l_61, l_63, l_64, l_80, l_96, l_97, l_99, l_100, l_122, l_160, l_200, l_320, l_640, l_999, l_1000, l_1200, l_4000, l_99999, l_100000, l_100001, l_100002, l_100006, l_100010, l_252645135, l_858993459, l_1431655765, n_cl, n_lt, n_le, n_eq, n_in, n_add, n_mul, n_sub, n_div, n_mod, n_addneg, n_negl, n_nege, Nat.add_sub_cancel, d_ltT, d_ltF, d_leT, d_leF, d_eqT, d_eqF, ↓reduceIte, Nat.reduceLeDiff, Nat.reduceAdd, Nat.reduceMul, Nat.reduceSub, Nat.reduceLT, Nat.zero_add, Nat.add_zero, not_false_eq_true, pK_45, pK_46, pK_47, pK_48, pK_49, pK_50, pK_51, pK_52, pK_53, pK_54, pK_55, pK_56, pR_45_0, pR_45_10, pR_45_11, pR_45_12, pR_46_0, pR_46_1, pR_46_2, pR_46_3, pR_46_4, pR_46_5, pR_46_6, pR_45_2, pR_45_3, pR_45_4, e1, w1, w2, s_min, x]
    rfl
theorem s_smallest (hF : p_fd I R) {row : Nat} (hrow : row < 7) : q_wp (d + 2) c 14 0 [.ref 45, .int (Int32.ofNat row), q_jk, q_jk] [] (p_h L I r dk n) Q = Q (some (.int (p_it (p_gmin fun k => R (k + 1) row) (R 0 row) (p_last R)))) (p_h L I r dk n) := by
  obtain ⟨w1, w2⟩ := k_46 (L := L) (r := r) (dk := dk) hrow
  have x0 : I (47 + row) 0 = R 0 row := hF.2 0 (by omega) row hrow
  have hl := p_last_le R
  refine Eq.trans ?_ (s_smallest_loop (d := d) (c := c) hF hrow (p_last R) 0 (by omega))
  simp (disch := omega) only [r14_0, r14_1, r14_4, r14_5, r14_6, r14_7, r14_8, r14_9, r14_10, va_rf_some, va_rf_none, cat_int, cat_ref, cat_null, cat_jk, q_cs_nil, q_cs_int, q_cs_ref, q_cs_long, q_tl_some, q_tl_none, nz_0, nz_1, nzn_0, nzn_1, nz_b, true_and, and_true, Nat.reduceLeDiff, Nat.reduceAdd, l_0, l_1, l_2, l_3, l_4, l_5, l_6, l_7, l_8, l_9, l_10, l_11, l_12, l_13, l_14, l_15, l_16, l_17, l_18, l_19, l_20, l_24, l_32, l_40, l_41, l_42, l_43, l_45, l_48, l_57, l_59, l_60, l_61, l_63, l_64, l_80, l_96, l_97, l_99, l_100, l_122, l_160, l_200, l_320, l_640, l_999, l_1000, l_1200, l_4000, l_99999, l_100000, l_100001, l_100002, l_100006, l_100010, l_252645135, l_858993459, l_1431655765, n_cl, n_lt, n_le, n_eq, n_in, n_add, n_mul, n_sub, n_div, n_mod, n_addneg, n_negl, n_nege, Nat.add_sub_cancel, d_ltT, d_ltF, d_leT, d_leF, d_eqT, d_eqF, ↓reduceIte, Nat.reduceLeDiff, Nat.reduceAdd, Nat.reduceMul, Nat.reduceSub, Nat.reduceLT, Nat.zero_add, Nat.add_zero, not_false_eq_true, pK_45, pK_46, pK_47, pK_48, pK_49, pK_50, pK_51, pK_52, pK_53, pK_54, pK_55, pK_56, pR_45_0, pR_45_10, pR_45_11, pR_45_12, pR_46_0, pR_46_1, pR_46_2, pR_46_3, pR_46_4, pR_46_5, pR_46_6, pR_45_2, pR_45_3, pR_45_4, w1, w2, x0]
  rfl
theorem s_level_loop (hF : p_fd I R)   : ∀ (m k : Nat), k + m = p_last R → q_wp (d + 1) c 16 4 [.ref 45, .int (p_it (p_glev R) 0 k), .int (Int32.ofNat (k + 1))] [] (p_h L I r dk n) Q = Q (some (.int (p_it (p_glev R) 0 (p_last R)))) (p_h L I r dk n)
  | 0, k, hk => by
    have hl := p_last_le R
    have e1 := hF.1
    obtain rfl : k = p_last R := hk
    rw [r16_4]
    simp (disch := omega) only [r16_5, r16_6, r16_9, r16_53, r16_54, va_rf_some, va_rf_none, cat_int, cat_ref, cat_null, cat_jk, q_cs_nil, q_cs_int, q_cs_ref, q_cs_long, q_tl_some, q_tl_none, nz_0, nz_1, nzn_0, nzn_1, nz_b, true_and, and_true, Nat.reduceLeDiff, Nat.reduceAdd, l_0, l_1, l_2, l_3, l_4, l_5, l_6, l_7, l_8, l_9, l_10, l_11, l_12, l_13, l_14, l_15, l_16, l_17, l_18, l_19, l_20, l_24, l_32, l_40, l_41, l_42, l_43, l_45, l_48, l_57, l_59, l_60, l_61, l_63, l_64, l_80, l_96, l_97, l_99, l_100, l_122, l_160, l_200, l_320, l_640, l_999, l_1000, l_1200, l_4000, l_99999, l_100000, l_100001, l_100002, l_100006, l_100010, l_252645135, l_858993459, l_1431655765, n_cl, n_lt, n_le, n_eq, n_in, n_add, n_mul, n_sub, n_div, n_mod, n_addneg, n_negl, n_nege, Nat.add_sub_cancel, d_ltT, d_ltF, d_leT, d_leF, d_eqT, d_eqF, ↓reduceIte, Nat.reduceLeDiff, Nat.reduceAdd, Nat.reduceMul, Nat.reduceSub, Nat.reduceLT, Nat.zero_add, Nat.add_zero, not_false_eq_true, pK_45, pK_46, pK_47, pK_48, pK_49, pK_50, pK_51, pK_52, pK_53, pK_54, pK_55, pK_56, pR_45_0, pR_45_10, pR_45_11, pR_45_12, pR_46_0, pR_46_1, pR_46_2, pR_46_3, pR_46_4, pR_46_5, pR_46_6, pR_45_2, pR_45_3, pR_45_4, e1]
  | m + 1, k, hk => by
    have hl := p_last_le R
    have e1 := hF.1
    have x21 : I 49 (k + 1) = R (k + 1) 2 := hF.2 (k + 1) (by omega) 2 (by omega)
    have x20 : I 49 k = R k 2 := hF.2 k (by omega) 2 (by omega)
    refine Eq.trans ?_ (s_level_loop hF  m (k + 1) (by omega))
    rw [r16_4]
    simp (disch := omega) only [r16_5, r16_6, r16_9, r16_12, r16_13, r16_16, r16_17, r16_18, r16_19, r16_20, r16_23, r16_24, r16_27, r16_28, r16_29, r16_30, r16_31, r16_32, r16_35, r16_36, r16_37, r16_38, r16_39, r16_40, r16_41, r16_44, r16_47, r16_50, va_rf_some, va_rf_none, cat_int, cat_ref, cat_null, cat_jk, q_cs_nil, q_cs_int, q_cs_ref, q_cs_long, q_tl_some, q_tl_none, nz_0, nz_1, nzn_0, nzn_1, nz_b, true_and, and_true, Nat.reduceLeDiff, Nat.reduceAdd, l_0, l_1, l_2, l_3, l_4, l_5, l_6, l_7, l_8, l_9, l_10, l_11, l_12, l_13, l_14, l_15, l_16, l_17, l_18, l_19, l_20, l_24, l_32, l_40, l_41, l_42, l_43, l_45, l_48, l_57, l_59, l_60, l_61, l_63, l_64, l_80, l_96, l_97, l_99, l_100, l_122, l_160, l_200, l_320, l_640, l_999, l_1000, l_1200, l_4000, l_99999, l_100000, l_100001, l_100002, l_100006, l_100010, l_252645135, l_858993459, l_1431655765, n_cl, n_lt, n_le, n_eq, n_in, n_add, n_mul, n_sub, n_div, n_mod, n_addneg, n_negl, n_nege, Nat.add_sub_cancel, d_ltT, d_ltF, d_leT, d_leF, d_eqT, d_eqF, ↓reduceIte, Nat.reduceLeDiff, Nat.reduceAdd, Nat.reduceMul, Nat.reduceSub, Nat.reduceLT, Nat.zero_add, Nat.add_zero, not_false_eq_true, pK_45, pK_46, pK_47, pK_48, pK_49, pK_50, pK_51, pK_52, pK_53, pK_54, pK_55, pK_56, pR_45_0, pR_45_10, pR_45_11, pR_45_12, pR_46_0, pR_46_1, pR_46_2, pR_46_3, pR_46_4, pR_46_5, pR_46_6, pR_45_2, pR_45_3, pR_45_4, e1, x20, x21]
    rw [show p_it (p_glev R) (Int32.ofNat 0) (k + 1) = p_glev R k (p_it (p_glev R) (Int32.ofNat 0) k) from rfl]
    unfold p_glev
    by_cases h1 : R (k + 1) 2 ≤ Int32.ofNat 0
    · rw [if_pos h1, if_neg (fun h => Int32.not_lt.2 h1 h.1)]
    · rw [if_neg h1]
      by_cases h2 : R (k + 1) 2 = R k 2
      · rw [if_pos h2, if_pos ⟨Int32.not_le.1 h1, h2⟩]; rfl
      · rw [if_neg h2, if_neg (fun h => h2 h.2)]
theorem s_level (hF : p_fd I R)   : q_wp (d + 1) c 16 0 [.ref 45, q_jk, q_jk] [] (p_h L I r dk n) Q = Q (some (.int (p_it (p_glev R) 0 (p_last R)))) (p_h L I r dk n) := by
  refine Eq.trans ?_ (s_level_loop (d := d) (c := c) hF  (p_last R) 0 (by omega))
  simp (disch := omega) only [r16_0, r16_1, r16_2, r16_3, va_rf_some, va_rf_none, cat_int, cat_ref, cat_null, cat_jk, q_cs_nil, q_cs_int, q_cs_ref, q_cs_long, q_tl_some, q_tl_none, nz_0, nz_1, nzn_0, nzn_1, nz_b, true_and, and_true, Nat.reduceLeDiff, Nat.reduceAdd, l_0, l_1, l_2, l_3, l_4, l_5, l_6, l_7, l_8, l_9, l_10, l_11, l_12, l_13, l_14, l_15, l_16, l_17, l_18, l_19, l_20, l_24, l_32, l_40, l_41, l_42, l_43, l_45, l_48, l_57, l_59, l_60, l_61, l_63, l_64, l_80, l_96, l_97, l_99, l_100, l_122, l_160, l_200, l_320, l_640, l_999, l_1000, l_1200, l_4000, l_99999, l_100000, l_100001, l_100002, l_100006, l_100010, l_252645135, l_858993459, l_1431655765, n_cl, n_lt, n_le, n_eq, n_in, n_add, n_mul, n_sub, n_div, n_mod, n_addneg, n_negl, n_nege, Nat.add_sub_cancel, d_ltT, d_ltF, d_leT, d_leF, d_eqT, d_eqF, ↓reduceIte, Nat.reduceLeDiff, Nat.reduceAdd, Nat.reduceMul, Nat.reduceSub, Nat.reduceLT, Nat.zero_add, Nat.add_zero, not_false_eq_true, pK_45, pK_46, pK_47, pK_48, pK_49, pK_50, pK_51, pK_52, pK_53, pK_54, pK_55, pK_56, pR_45_0, pR_45_10, pR_45_11, pR_45_12, pR_46_0, pR_46_1, pR_46_2, pR_46_3, pR_46_4, pR_46_5, pR_46_6, pR_45_2, pR_45_3, pR_45_4]
  rfl
theorem s_turned_loop (hF : p_fd I R)  (hw : ∀ k, k ≤ p_last R → p_nb (R k 3) 63) : ∀ (m k : Nat) (lx : Value), k + m = p_last R → q_wp (d + 2) c 17 4 [.ref 45, .int (p_it (p_gtrn R) 0 k), .int (Int32.ofNat (k + 1)), lx] [] (p_h L I r dk n) Q = Q (some (.int (p_it (p_gtrn R) 0 (p_last R)))) (p_h L I r dk n)
  | 0, k, lx, hk => by
    have hl := p_last_le R
    have e1 := hF.1
    obtain rfl : k = p_last R := hk
    rw [r17_4]
    simp (disch := omega) only [r17_5, r17_6, r17_9, r17_53, r17_54, va_rf_some, va_rf_none, cat_int, cat_ref, cat_null, cat_jk, q_cs_nil, q_cs_int, q_cs_ref, q_cs_long, q_tl_some, q_tl_none, nz_0, nz_1, nzn_0, nzn_1, nz_b, true_and, and_true, Nat.reduceLeDiff, Nat.reduceAdd, l_0, l_1, l_2, l_3, l_4, l_5, l_6, l_7, l_8, l_9, l_10, l_11, l_12, l_13, l_14, l_15, l_16, l_17, l_18, l_19, l_20, l_24, l_32, l_40, l_41, l_42, l_43, l_45, l_48, l_57, l_59, l_60, l_61, l_63, l_64, l_80, l_96, l_97, l_99, l_100, l_122, l_160, l_200, l_320, l_640, l_999, l_1000, l_1200, l_4000, l_99999, l_100000, l_100001, l_100002, l_100006, l_100010, l_252645135, l_858993459, l_1431655765, n_cl, n_lt, n_le, n_eq, n_in, n_add, n_mul, n_sub, n_div, n_mod, n_addneg, n_negl, n_nege, Nat.add_sub_cancel, d_ltT, d_ltF, d_leT, d_leF, d_eqT, d_eqF, ↓reduceIte, Nat.reduceLeDiff, Nat.reduceAdd, Nat.reduceMul, Nat.reduceSub, Nat.reduceLT, Nat.zero_add, Nat.add_zero, not_false_eq_true, pK_45, pK_46, pK_47, pK_48, pK_49, pK_50, pK_51, pK_52, pK_53, pK_54, pK_55, pK_56, pR_45_0, pR_45_10, pR_45_11, pR_45_12, pR_46_0, pR_46_1, pR_46_2, pR_46_3, pR_46_4, pR_46_5, pR_46_6, pR_45_2, pR_45_3, pR_45_4, e1]
  | m + 1, k, lx, hk => by
    have hl := p_last_le R
    have e1 := hF.1
    have x31 : I 50 (k + 1) = R (k + 1) 3 := hF.2 (k + 1) (by omega) 3 (by omega)
    have x30 : I 50 k = R k 3 := hF.2 k (by omega) 3 (by omega)
    have hfm : p_fm (R (k + 1) 3 - R k 3 + Int32.ofNat 32) (Int32.ofNat 64) = (R (k + 1) 3 - R k 3 + 96) % 64 := by
      obtain ⟨a, ha, ea⟩ := hw (k + 1) (by omega)
      obtain ⟨b, hb, eb⟩ := hw k (by omega)
      have ia : (R (k + 1) 3).toInt = a := by rw [ea]; exact n_ti (by omega)
      have ib : (R k 3).toInt = b := by rw [eb]; exact n_ti (by omega)
      have e1 : (R (k + 1) 3 - R k 3).toInt = a - b := by rw [t_sub (by omega) (by omega), ia, ib]
      have e32 : (Int32.ofNat 32).toInt = 32 := rfl
      have e640 : (Int32.ofNat 640).toInt = 640 := rfl
      have e96 : (96 : Int32).toInt = 96 := rfl
      have e64 : (64 : Int32).toInt = 64 := rfl
      have e2 : (R (k + 1) 3 - R k 3 + Int32.ofNat 32).toInt = a - b + 32 := by rw [t_add (by omega) (by omega), e1, e32]
      have e3 : (R (k + 1) 3 - R k 3 + Int32.ofNat 32 + Int32.ofNat 640).toInt = a - b + 672 := by rw [t_add (by omega) (by omega), e2, e640]; omega
      have e4 : (R (k + 1) 3 - R k 3 + 96).toInt = a - b + 96 := by rw [t_add (by omega) (by omega), e1, e96]
      rw [p_fm64 (by omega) (by omega)]
      refine Int32.toInt.inj ?_
      rw [t_mod, t_mod, e3, e4, e64, show (Int32.ofNat 64).toInt = 64 from rfl, Int.tmod_eq_emod_of_nonneg (by omega), Int.tmod_eq_emod_of_nonneg (by omega)]
      omega
    refine Eq.trans ?_ (s_turned_loop hF hw m (k + 1) (.int (R (k + 1) 3 - R k 3)) (by omega))
    rw [r17_4]
    simp (disch := omega) only [r17_5, r17_6, r17_9, r17_12, r17_13, r17_16, r17_17, r17_18, r17_19, r17_20, r17_21, r17_24, r17_25, r17_26, r17_27, r17_28, r17_29, r17_30, r17_31, r17_32, r17_33, r17_34, r17_36, r17_37, r17_39, r17_42, r17_44, r17_45, r17_46, r17_47, r17_50, va_rf_some, va_rf_none, cat_int, cat_ref, cat_null, cat_jk, q_cs_nil, q_cs_int, q_cs_ref, q_cs_long, q_tl_some, q_tl_none, nz_0, nz_1, nzn_0, nzn_1, nz_b, true_and, and_true, Nat.reduceLeDiff, Nat.reduceAdd, l_0, l_1, l_2, l_3, l_4, l_5, l_6, l_7, l_8, l_9, l_10, l_11, l_12, l_13, l_14, l_15, l_16, l_17, l_18, l_19, l_20, l_24, l_32, l_40, l_41, l_42, l_43, l_45, l_48, l_57, l_59, l_60, l_61, l_63, l_64, l_80, l_96, l_97, l_99, l_100, l_122, l_160, l_200, l_320, l_640, l_999, l_1000, l_1200, l_4000, l_99999, l_100000, l_100001, l_100002, l_100006, l_100010, l_252645135, l_858993459, l_1431655765, n_cl, n_lt, n_le, n_eq, n_in, n_add, n_mul, n_sub, n_div, n_mod, n_addneg, n_negl, n_nege, Nat.add_sub_cancel, d_ltT, d_ltF, d_leT, d_leF, d_eqT, d_eqF, ↓reduceIte, Nat.reduceLeDiff, Nat.reduceAdd, Nat.reduceMul, Nat.reduceSub, Nat.reduceLT, Nat.zero_add, Nat.add_zero, not_false_eq_true, pK_45, pK_46, pK_47, pK_48, pK_49, pK_50, pK_51, pK_52, pK_53, pK_54, pK_55, pK_56, pR_45_0, pR_45_10, pR_45_11, pR_45_12, pR_46_0, pR_46_1, pR_46_2, pR_46_3, pR_46_4, pR_46_5, pR_46_6, pR_45_2, pR_45_3, pR_45_4, e1, x30, x31, s_floorMod (show ¬ (Int32.ofNat 64 = 0) by decide)]
    rw [hfm]
    rfl
theorem s_turned (hF : p_fd I R)  (hw : ∀ k, k ≤ p_last R → p_nb (R k 3) 63) : q_wp (d + 2) c 17 0 [.ref 45, q_jk, q_jk, q_jk] [] (p_h L I r dk n) Q = Q (some (.int (p_it (p_gtrn R) 0 (p_last R)))) (p_h L I r dk n) := by
  refine Eq.trans ?_ (s_turned_loop (d := d) (c := c) hF hw (p_last R) 0 q_jk (by omega))
  simp (disch := omega) only [r17_0, r17_1, r17_2, r17_3, va_rf_some, va_rf_none, cat_int, cat_ref, cat_null, cat_jk, q_cs_nil, q_cs_int, q_cs_ref, q_cs_long, q_tl_some, q_tl_none, nz_0, nz_1, nzn_0, nzn_1, nz_b, true_and, and_true, Nat.reduceLeDiff, Nat.reduceAdd, l_0, l_1, l_2, l_3, l_4, l_5, l_6, l_7, l_8, l_9, l_10, l_11, l_12, l_13, l_14, l_15, l_16, l_17, l_18, l_19, l_20, l_24, l_32, l_40, l_41, l_42, l_43, l_45, l_48, l_57, l_59, l_60, l_61, l_63, l_64, l_80, l_96, l_97, l_99, l_100, l_122, l_160, l_200, l_320, l_640, l_999, l_1000, l_1200, l_4000, l_99999, l_100000, l_100001, l_100002, l_100006, l_100010, l_252645135, l_858993459, l_1431655765, n_cl, n_lt, n_le, n_eq, n_in, n_add, n_mul, n_sub, n_div, n_mod, n_addneg, n_negl, n_nege, Nat.add_sub_cancel, d_ltT, d_ltF, d_leT, d_leF, d_eqT, d_eqF, ↓reduceIte, Nat.reduceLeDiff, Nat.reduceAdd, Nat.reduceMul, Nat.reduceSub, Nat.reduceLT, Nat.zero_add, Nat.add_zero, not_false_eq_true, pK_45, pK_46, pK_47, pK_48, pK_49, pK_50, pK_51, pK_52, pK_53, pK_54, pK_55, pK_56, pR_45_0, pR_45_10, pR_45_11, pR_45_12, pR_46_0, pR_46_1, pR_46_2, pR_46_3, pR_46_4, pR_46_5, pR_46_6, pR_45_2, pR_45_3, pR_45_4]
  rfl
theorem s_lastClimb_loop (hF : p_fd I R)   : ∀ (m k : Nat), k + m = p_last R → q_wp (d + 1) c 18 4 [.ref 45, .int (p_it (p_gcl R) (-1) k), .int (Int32.ofNat (k + 1))] [] (p_h L I r dk n) Q = Q (some (.int (p_it (p_gcl R) (-1) (p_last R)))) (p_h L I r dk n)
  | 0, k, hk => by
    have hl := p_last_le R
    have e1 := hF.1
    obtain rfl : k = p_last R := hk
    rw [r18_4]
    simp (disch := omega) only [r18_5, r18_6, r18_9, r18_41, r18_42, va_rf_some, va_rf_none, cat_int, cat_ref, cat_null, cat_jk, q_cs_nil, q_cs_int, q_cs_ref, q_cs_long, q_tl_some, q_tl_none, nz_0, nz_1, nzn_0, nzn_1, nz_b, true_and, and_true, Nat.reduceLeDiff, Nat.reduceAdd, l_0, l_1, l_2, l_3, l_4, l_5, l_6, l_7, l_8, l_9, l_10, l_11, l_12, l_13, l_14, l_15, l_16, l_17, l_18, l_19, l_20, l_24, l_32, l_40, l_41, l_42, l_43, l_45, l_48, l_57, l_59, l_60, l_61, l_63, l_64, l_80, l_96, l_97, l_99, l_100, l_122, l_160, l_200, l_320, l_640, l_999, l_1000, l_1200, l_4000, l_99999, l_100000, l_100001, l_100002, l_100006, l_100010, l_252645135, l_858993459, l_1431655765, n_cl, n_lt, n_le, n_eq, n_in, n_add, n_mul, n_sub, n_div, n_mod, n_addneg, n_negl, n_nege, Nat.add_sub_cancel, d_ltT, d_ltF, d_leT, d_leF, d_eqT, d_eqF, ↓reduceIte, Nat.reduceLeDiff, Nat.reduceAdd, Nat.reduceMul, Nat.reduceSub, Nat.reduceLT, Nat.zero_add, Nat.add_zero, not_false_eq_true, pK_45, pK_46, pK_47, pK_48, pK_49, pK_50, pK_51, pK_52, pK_53, pK_54, pK_55, pK_56, pR_45_0, pR_45_10, pR_45_11, pR_45_12, pR_46_0, pR_46_1, pR_46_2, pR_46_3, pR_46_4, pR_46_5, pR_46_6, pR_45_2, pR_45_3, pR_45_4, e1]
  | m + 1, k, hk => by
    have hl := p_last_le R
    have e1 := hF.1
    have x21 : I 49 (k + 1) = R (k + 1) 2 := hF.2 (k + 1) (by omega) 2 (by omega)
    have x20 : I 49 k = R k 2 := hF.2 k (by omega) 2 (by omega)
    refine Eq.trans ?_ (s_lastClimb_loop hF  m (k + 1) (by omega))
    rw [r18_4]
    simp (disch := omega) only [r18_5, r18_6, r18_9, r18_12, r18_13, r18_16, r18_17, r18_18, r18_19, r18_20, r18_21, r18_24, r18_25, r18_26, r18_27, r18_28, r18_29, r18_30, r18_33, r18_34, r18_35, r18_38, va_rf_some, va_rf_none, cat_int, cat_ref, cat_null, cat_jk, q_cs_nil, q_cs_int, q_cs_ref, q_cs_long, q_tl_some, q_tl_none, nz_0, nz_1, nzn_0, nzn_1, nz_b, true_and, and_true, Nat.reduceLeDiff, Nat.reduceAdd, l_0, l_1, l_2, l_3, l_4, l_5, l_6, l_7, l_8, l_9, l_10, l_11, l_12, l_13, l_14, l_15, l_16, l_17, l_18, l_19, l_20, l_24, l_32, l_40, l_41, l_42, l_43, l_45, l_48, l_57, l_59, l_60, l_61, l_63, l_64, l_80, l_96, l_97, l_99, l_100, l_122, l_160, l_200, l_320, l_640, l_999, l_1000, l_1200, l_4000, l_99999, l_100000, l_100001, l_100002, l_100006, l_100010, l_252645135, l_858993459, l_1431655765, n_cl, n_lt, n_le, n_eq, n_in, n_add, n_mul, n_sub, n_div, n_mod, n_addneg, n_negl, n_nege, Nat.add_sub_cancel, d_ltT, d_ltF, d_leT, d_leF, d_eqT, d_eqF, ↓reduceIte, Nat.reduceLeDiff, Nat.reduceAdd, Nat.reduceMul, Nat.reduceSub, Nat.reduceLT, Nat.zero_add, Nat.add_zero, not_false_eq_true, pK_45, pK_46, pK_47, pK_48, pK_49, pK_50, pK_51, pK_52, pK_53, pK_54, pK_55, pK_56, pR_45_0, pR_45_10, pR_45_11, pR_45_12, pR_46_0, pR_46_1, pR_46_2, pR_46_3, pR_46_4, pR_46_5, pR_46_6, pR_45_2, pR_45_3, pR_45_4, e1, x20, x21]
    rw [show p_it (p_gcl R) (-Int32.ofNat 1) (k + 1) = p_gcl R k (p_it (p_gcl R) (-Int32.ofNat 1) k) from rfl]
    unfold p_gcl
    by_cases h1 : R (k + 1) 2 ≤ R k 2
    · rw [if_pos h1, if_neg (Int32.not_lt.2 h1)]
    · rw [if_neg h1, if_pos (Int32.not_le.1 h1)]
theorem s_lastClimb (hF : p_fd I R)   : q_wp (d + 1) c 18 0 [.ref 45, q_jk, q_jk] [] (p_h L I r dk n) Q = Q (some (.int (p_it (p_gcl R) (-1) (p_last R)))) (p_h L I r dk n) := by
  refine Eq.trans ?_ (s_lastClimb_loop (d := d) (c := c) hF  (p_last R) 0 (by omega))
  simp (disch := omega) only [r18_0, r18_1, r18_2, r18_3, va_rf_some, va_rf_none, cat_int, cat_ref, cat_null, cat_jk, q_cs_nil, q_cs_int, q_cs_ref, q_cs_long, q_tl_some, q_tl_none, nz_0, nz_1, nzn_0, nzn_1, nz_b, true_and, and_true, Nat.reduceLeDiff, Nat.reduceAdd, l_0, l_1, l_2, l_3, l_4, l_5, l_6, l_7, l_8, l_9, l_10, l_11, l_12, l_13, l_14, l_15, l_16, l_17, l_18, l_19, l_20, l_24, l_32, l_40, l_41, l_42, l_43, l_45, l_48, l_57, l_59, l_60, l_61, l_63, l_64, l_80, l_96, l_97, l_99, l_100, l_122, l_160, l_200, l_320, l_640, l_999, l_1000, l_1200, l_4000, l_99999, l_100000, l_100001, l_100002, l_100006, l_100010, l_252645135, l_858993459, l_1431655765, n_cl, n_lt, n_le, n_eq, n_in, n_add, n_mul, n_sub, n_div, n_mod, n_addneg, n_negl, n_nege, Nat.add_sub_cancel, d_ltT, d_ltF, d_leT, d_leF, d_eqT, d_eqF, ↓reduceIte, Nat.reduceLeDiff, Nat.reduceAdd, Nat.reduceMul, Nat.reduceSub, Nat.reduceLT, Nat.zero_add, Nat.add_zero, not_false_eq_true, pK_45, pK_46, pK_47, pK_48, pK_49, pK_50, pK_51, pK_52, pK_53, pK_54, pK_55, pK_56, pR_45_0, pR_45_10, pR_45_11, pR_45_12, pR_46_0, pR_46_1, pR_46_2, pR_46_3, pR_46_4, pR_46_5, pR_46_6, pR_45_2, pR_45_3, pR_45_4]
  rfl
theorem s_drop_loop (hF : p_fd I R)   : ∀ (m k : Nat), k + m = p_last R → q_wp (d + 2) c 19 4 [.ref 45, .int (p_it (p_gdr R) 0 k), .int (Int32.ofNat (k + 1))] [] (p_h L I r dk n) Q = Q (some (.int (p_it (p_gdr R) 0 (p_last R)))) (p_h L I r dk n)
  | 0, k, hk => by
    have hl := p_last_le R
    have e1 := hF.1
    obtain rfl : k = p_last R := hk
    rw [r19_4]
    simp (disch := omega) only [r19_5, r19_6, r19_9, r19_42, r19_43, va_rf_some, va_rf_none, cat_int, cat_ref, cat_null, cat_jk, q_cs_nil, q_cs_int, q_cs_ref, q_cs_long, q_tl_some, q_tl_none, nz_0, nz_1, nzn_0, nzn_1, nz_b, true_and, and_true, Nat.reduceLeDiff, Nat.reduceAdd, l_0, l_1, l_2, l_3, l_4, l_5, l_6, l_7, l_8, l_9, l_10, l_11, l_12, l_13, l_14, l_15, l_16, l_17, l_18, l_19, l_20, l_24, l_32, l_40, l_41, l_42, l_43, l_45, l_48, l_57, l_59, l_60, l_61, l_63, l_64, l_80, l_96, l_97, l_99, l_100, l_122, l_160, l_200, l_320, l_640, l_999, l_1000, l_1200, l_4000, l_99999, l_100000, l_100001, l_100002, l_100006, l_100010, l_252645135, l_858993459, l_1431655765, n_cl, n_lt, n_le, n_eq, n_in, n_add, n_mul, n_sub, n_div, n_mod, n_addneg, n_negl, n_nege, Nat.add_sub_cancel, d_ltT, d_ltF, d_leT, d_leF, d_eqT, d_eqF, ↓reduceIte, Nat.reduceLeDiff, Nat.reduceAdd, Nat.reduceMul, Nat.reduceSub, Nat.reduceLT, Nat.zero_add, Nat.add_zero, not_false_eq_true, pK_45, pK_46, pK_47, pK_48, pK_49, pK_50, pK_51, pK_52, pK_53, pK_54, pK_55, pK_56, pR_45_0, pR_45_10, pR_45_11, pR_45_12, pR_46_0, pR_46_1, pR_46_2, pR_46_3, pR_46_4, pR_46_5, pR_46_6, pR_45_2, pR_45_3, pR_45_4, e1]
  | m + 1, k, hk => by
    have hl := p_last_le R
    have e1 := hF.1
    have x21 : I 49 (k + 1) = R (k + 1) 2 := hF.2 (k + 1) (by omega) 2 (by omega)
    have x20 : I 49 k = R k 2 := hF.2 k (by omega) 2 (by omega)
    refine Eq.trans ?_ (s_drop_loop hF  m (k + 1) (by omega))
    rw [r19_4]
    simp (disch := omega) only [r19_5, r19_6, r19_9, r19_12, r19_13, r19_14, r19_17, r19_18, r19_19, r19_20, r19_21, r19_22, r19_23, r19_24, r19_27, r19_28, r19_29, r19_30, r19_31, r19_32, r19_35, r19_36, r19_39, va_rf_some, va_rf_none, cat_int, cat_ref, cat_null, cat_jk, q_cs_nil, q_cs_int, q_cs_ref, q_cs_long, q_tl_some, q_tl_none, nz_0, nz_1, nzn_0, nzn_1, nz_b, true_and, and_true, Nat.reduceLeDiff, Nat.reduceAdd, l_0, l_1, l_2, l_3, l_4, l_5, l_6, l_7, l_8, l_9, l_10, l_11, l_12, l_13, l_14, l_15, l_16, l_17, l_18, l_19, l_20, l_24, l_32, l_40, l_41, l_42, l_43, l_45, l_48, l_57, l_59, l_60, l_61, l_63, l_64, l_80, l_96, l_97, l_99, l_100, l_122, l_160, l_200, l_320, l_640, l_999, l_1000, l_1200, l_4000, l_99999, l_100000, l_100001, l_100002, l_100006, l_100010, l_252645135, l_858993459, l_1431655765, n_cl, n_lt, n_le, n_eq, n_in, n_add, n_mul, n_sub, n_div, n_mod, n_addneg, n_negl, n_nege, Nat.add_sub_cancel, d_ltT, d_ltF, d_leT, d_leF, d_eqT, d_eqF, ↓reduceIte, Nat.reduceLeDiff, Nat.reduceAdd, Nat.reduceMul, Nat.reduceSub, Nat.reduceLT, Nat.zero_add, Nat.add_zero, not_false_eq_true, pK_45, pK_46, pK_47, pK_48, pK_49, pK_50, pK_51, pK_52, pK_53, pK_54, pK_55, pK_56, pR_45_0, pR_45_10, pR_45_11, pR_45_12, pR_46_0, pR_46_1, pR_46_2, pR_46_3, pR_46_4, pR_46_5, pR_46_6, pR_45_2, pR_45_3, pR_45_4, e1, x20, x21, s_max]
    rfl
theorem s_drop (hF : p_fd I R)   : q_wp (d + 2) c 19 0 [.ref 45, q_jk, q_jk] [] (p_h L I r dk n) Q = Q (some (.int (p_it (p_gdr R) 0 (p_last R)))) (p_h L I r dk n) := by
  refine Eq.trans ?_ (s_drop_loop (d := d) (c := c) hF  (p_last R) 0 (by omega))
  simp (disch := omega) only [r19_0, r19_1, r19_2, r19_3, va_rf_some, va_rf_none, cat_int, cat_ref, cat_null, cat_jk, q_cs_nil, q_cs_int, q_cs_ref, q_cs_long, q_tl_some, q_tl_none, nz_0, nz_1, nzn_0, nzn_1, nz_b, true_and, and_true, Nat.reduceLeDiff, Nat.reduceAdd, l_0, l_1, l_2, l_3, l_4, l_5, l_6, l_7, l_8, l_9, l_10, l_11, l_12, l_13, l_14, l_15, l_16, l_17, l_18, l_19, l_20, l_24, l_32, l_40, l_41, l_42, l_43, l_45, l_48, l_57, l_59, l_60, l_61, l_63, l_64, l_80, l_96, l_97, l_99, l_100, l_122, l_160, l_200, l_320, l_640, l_999, l_1000, l_1200, l_4000, l_99999, l_100000, l_100001, l_100002, l_100006, l_100010, l_252645135, l_858993459, l_1431655765, n_cl, n_lt, n_le, n_eq, n_in, n_add, n_mul, n_sub, n_div, n_mod, n_addneg, n_negl, n_nege, Nat.add_sub_cancel, d_ltT, d_ltF, d_leT, d_leF, d_eqT, d_eqF, ↓reduceIte, Nat.reduceLeDiff, Nat.reduceAdd, Nat.reduceMul, Nat.reduceSub, Nat.reduceLT, Nat.zero_add, Nat.add_zero, not_false_eq_true, pK_45, pK_46, pK_47, pK_48, pK_49, pK_50, pK_51, pK_52, pK_53, pK_54, pK_55, pK_56, pR_45_0, pR_45_10, pR_45_11, pR_45_12, pR_46_0, pR_46_1, pR_46_2, pR_46_3, pR_46_4, pR_46_5, pR_46_6, pR_45_2, pR_45_3, pR_45_4]
  rfl
theorem s_first_loop (hF : p_fd I R) {row : Nat} {v : Int32} (hrow : row < 7) : ∀ (m k : Nat), k + m = p_last R + 1 → q_wp (d + 1) c 15 2 [.ref 45, .int (Int32.ofNat row), .int v, .int (Int32.ofNat k)] [] (p_h L I r dk n) Q = Q (some (.int (p_find (fun k => decide (R k row = v)) m k))) (p_h L I r dk n)
  | 0, k, hk => by
    have hl := p_last_le R
    have e1 := hF.1
    rw [r15_2]
    simp (disch := omega) only [r15_3, r15_4, r15_7, r15_30, r15_31, va_rf_some, va_rf_none, cat_int, cat_ref, cat_null, cat_jk, q_cs_nil, q_cs_int, q_cs_ref, q_cs_long, q_tl_some, q_tl_none, nz_0, nz_1, nzn_0, nzn_1, nz_b, true_and, and_true, Nat.reduceLeDiff, Nat.reduceAdd, l_0, l_1, l_2, l_3, l_4, l_5, l_6, l_7, l_8, l_9, l_10, l_11, l_12, l_13, l_14, l_15, l_16, l_17, l_18, l_19, l_20, l_24, l_32, l_40, l_41, l_42, l_43, l_45, l_48, l_57, l_59, l_60, l_61, l_63, l_64, l_80, l_96, l_97, l_99, l_100, l_122, l_160, l_200, l_320, l_640, l_999, l_1000, l_1200, l_4000, l_99999, l_100000, l_100001, l_100002, l_100006, l_100010, l_252645135, l_858993459, l_1431655765, n_cl, n_lt, n_le, n_eq, n_in, n_add, n_mul, n_sub, n_div, n_mod, n_addneg, n_negl, n_nege, Nat.add_sub_cancel, d_ltT, d_ltF, d_leT, d_leF, d_eqT, d_eqF, ↓reduceIte, Nat.reduceLeDiff, Nat.reduceAdd, Nat.reduceMul, Nat.reduceSub, Nat.reduceLT, Nat.zero_add, Nat.add_zero, not_false_eq_true, pK_45, pK_46, pK_47, pK_48, pK_49, pK_50, pK_51, pK_52, pK_53, pK_54, pK_55, pK_56, pR_45_0, pR_45_10, pR_45_11, pR_45_12, pR_46_0, pR_46_1, pR_46_2, pR_46_3, pR_46_4, pR_46_5, pR_46_6, pR_45_2, pR_45_3, pR_45_4, e1]
    rfl
  | m + 1, k, hk => by
    have hl := p_last_le R
    have e1 := hF.1
    obtain ⟨w1, w2⟩ := k_46 (L := L) (r := r) (dk := dk) hrow
    have x : I (47 + row) k = R k row := hF.2 k (by omega) row hrow
    have e : p_find (fun k => decide (R k row = v)) (m + 1) k = if R k row = v then Int32.ofNat k else p_find (fun k => decide (R k row = v)) m (k + 1) := by
      show (if decide _ = true then _ else _) = _
      by_cases h : R k row = v
      · rw [if_pos h, if_pos (decide_eq_true h)]
      · rw [if_neg h, if_neg (by rw [decide_eq_false h]; decide)]
    rw [r15_2, e]
    simp (disch := omega) only [r15_3, r15_4, r15_7, r15_10, r15_11, r15_14, r15_15, r15_16, r15_17, r15_18, r15_19, r15_22, r15_23, r15_24, r15_27, va_rf_some, va_rf_none, cat_int, cat_ref, cat_null, cat_jk, q_cs_nil, q_cs_int, q_cs_ref, q_cs_long, q_tl_some, q_tl_none, nz_0, nz_1, nzn_0, nzn_1, nz_b, true_and, and_true, Nat.reduceLeDiff, Nat.reduceAdd, l_0, l_1, l_2, l_3, l_4, l_5, l_6, l_7, l_8, l_9, l_10, l_11, l_12, l_13, l_14, l_15, l_16, l_17, l_18, l_19, l_20, l_24, l_32, l_40, l_41, l_42, l_43, l_45, l_48, l_57, l_59, l_60, l_61, l_63, l_64, l_80, l_96, l_97, l_99, l_100, l_122, l_160, l_200, l_320, l_640, l_999, l_1000, l_1200, l_4000, l_99999, l_100000, l_100001, l_100002, l_100006, l_100010, l_252645135, l_858993459, l_1431655765, n_cl, n_lt, n_le, n_eq, n_in, n_add, n_mul, n_sub, n_div, n_mod, n_addneg, n_negl, n_nege, Nat.add_sub_cancel, d_ltT, d_ltF, d_leT, d_leF, d_eqT, d_eqF, ↓reduceIte, Nat.reduceLeDiff, Nat.reduceAdd, Nat.reduceMul, Nat.reduceSub, Nat.reduceLT, Nat.zero_add, Nat.add_zero, not_false_eq_true, pK_45, pK_46, pK_47, pK_48, pK_49, pK_50, pK_51, pK_52, pK_53, pK_54, pK_55, pK_56, pR_45_0, pR_45_10, pR_45_11, pR_45_12, pR_46_0, pR_46_1, pR_46_2, pR_46_3, pR_46_4, pR_46_5, pR_46_6, pR_45_2, pR_45_3, pR_45_4, e1, w1, w2, x]
    by_cases h : R k row = v
    · rw [if_pos h, if_pos h]
    · rw [if_neg h, if_neg h]
      exact s_first_loop hF hrow m (k + 1) (by omega)
theorem s_firstWith (hF : p_fd I R) {row : Nat} {v : Int32} (hrow : row < 7) : q_wp (d + 1) c 15 0 [.ref 45, .int (Int32.ofNat row), .int v, q_jk] [] (p_h L I r dk n) Q = Q (some (.int (p_find (fun k => decide (R k row = v)) (p_last R + 1) 0))) (p_h L I r dk n) := by
  refine Eq.trans ?_ (s_first_loop (d := d) (c := c) hF hrow (p_last R + 1) 0 (by omega))
  simp (disch := omega) only [r15_0, r15_1, va_rf_some, va_rf_none, cat_int, cat_ref, cat_null, cat_jk, q_cs_nil, q_cs_int, q_cs_ref, q_cs_long, q_tl_some, q_tl_none, nz_0, nz_1, nzn_0, nzn_1, nz_b, true_and, and_true, Nat.reduceLeDiff, Nat.reduceAdd, l_0, l_1, l_2, l_3, l_4, l_5, l_6, l_7, l_8, l_9, l_10, l_11, l_12, l_13, l_14, l_15, l_16, l_17, l_18, l_19, l_20, l_24, l_32, l_40, l_41, l_42, l_43, l_45, l_48, l_57, l_59, l_60, l_61, l_63, l_64, l_80, l_96, l_97, l_99, l_100, l_122, l_160, l_200, l_320, l_640, l_999, l_1000, l_1200, l_4000, l_99999, l_100000, l_100001, l_100002, l_100006, l_100010, l_252645135, l_858993459, l_1431655765, n_cl, n_lt, n_le, n_eq, n_in, n_add, n_mul, n_sub, n_div, n_mod, n_addneg, n_negl, n_nege, Nat.add_sub_cancel, d_ltT, d_ltF, d_leT, d_leF, d_eqT, d_eqF, ↓reduceIte, Nat.reduceLeDiff, Nat.reduceAdd, Nat.reduceMul, Nat.reduceSub, Nat.reduceLT, Nat.zero_add, Nat.add_zero, not_false_eq_true]
def p_out (R : Nat → Nat → Int32) (wide high : Int32) (k : Nat) : Bool := decide (wide < p_abs (R k 0) ∨ wide < p_abs (R k 1) ∨ high < R k 2)
theorem s_absM {h : q_H} {x : Int32} : q_wp (d + 1) c 10001 0 [.int x] [] h Q = Q (some (.int (p_abs x))) h := by
  rw [s_abs]
  refine congrArg (fun x => Q (some (.int x)) h) ?_
  unfold p_abs
  by_cases h : x < 0
  · rw [if_pos h, if_neg (Int32.not_le.2 h)]
  · rw [if_neg h, if_pos (Int32.not_lt.1 h)]
theorem s_beyond_loop (hF : p_fd I R) {w h : Int32} : ∀ (m k : Nat) (l4 : Value), k + m = p_last R + 1 → q_wp (d + 2) c 20 2 [.ref 45, .int w, .int h, .int (Int32.ofNat k), l4] [] (p_h L I r dk n) Q = Q (some (.int (p_find (p_out R w h) m k))) (p_h L I r dk n)
  | 0, k, l4, hk => by
    have hl := p_last_le R
    have e1 := hF.1
    rw [r20_2]
    simp (disch := omega) only [r20_3, r20_4, r20_7, r20_72, r20_73, va_rf_some, va_rf_none, cat_int, cat_ref, cat_null, cat_jk, q_cs_nil, q_cs_int, q_cs_ref, q_cs_long, q_tl_some, q_tl_none, nz_0, nz_1, nzn_0, nzn_1, nz_b, true_and, and_true, Nat.reduceLeDiff, Nat.reduceAdd, l_0, l_1, l_2, l_3, l_4, l_5, l_6, l_7, l_8, l_9, l_10, l_11, l_12, l_13, l_14, l_15, l_16, l_17, l_18, l_19, l_20, l_24, l_32, l_40, l_41, l_42, l_43, l_45, l_48, l_57, l_59, l_60, l_61, l_63, l_64, l_80, l_96, l_97, l_99, l_100, l_122, l_160, l_200, l_320, l_640, l_999, l_1000, l_1200, l_4000, l_99999, l_100000, l_100001, l_100002, l_100006, l_100010, l_252645135, l_858993459, l_1431655765, n_cl, n_lt, n_le, n_eq, n_in, n_add, n_mul, n_sub, n_div, n_mod, n_addneg, n_negl, n_nege, Nat.add_sub_cancel, d_ltT, d_ltF, d_leT, d_leF, d_eqT, d_eqF, ↓reduceIte, Nat.reduceLeDiff, Nat.reduceAdd, Nat.reduceMul, Nat.reduceSub, Nat.reduceLT, Nat.zero_add, Nat.add_zero, not_false_eq_true, pK_45, pK_46, pK_47, pK_48, pK_49, pK_50, pK_51, pK_52, pK_53, pK_54, pK_55, pK_56, pR_45_0, pR_45_10, pR_45_11, pR_45_12, pR_46_0, pR_46_1, pR_46_2, pR_46_3, pR_46_4, pR_46_5, pR_46_6, pR_45_2, pR_45_3, pR_45_4, e1]
    rfl
  | m + 1, k, l4, hk => by
    have hl := p_last_le R
    have e1 := hF.1
    have x0 : I 47 k = R k 0 := hF.2 k (by omega) 0 (by omega)
    have x1 : I 48 k = R k 1 := hF.2 k (by omega) 1 (by omega)
    have x2 : I 49 k = R k 2 := hF.2 k (by omega) 2 (by omega)
    have e : p_find (p_out R w h) (m + 1) k = if p_out R w h k = true then Int32.ofNat k else p_find (p_out R w h) m (k + 1) := rfl
    rw [r20_2, e]
    simp (disch := omega) only [r20_3, r20_4, r20_7, r20_10, r20_11, r20_14, r20_15, r20_16, r20_17, r20_18, r20_21, r20_22, r20_25, r20_26, r20_29, r20_30, r20_31, r20_32, r20_33, r20_36, r20_37, r20_40, r20_41, r20_44, r20_45, r20_47, r20_49, r20_52, r20_53, r20_56, r20_57, r20_58, r20_59, r20_60, r20_61, r20_64, r20_65, r20_66, r20_69, s_absM, va_rf_some, va_rf_none, cat_int, cat_ref, cat_null, cat_jk, q_cs_nil, q_cs_int, q_cs_ref, q_cs_long, q_tl_some, q_tl_none, nz_0, nz_1, nzn_0, nzn_1, nz_b, true_and, and_true, Nat.reduceLeDiff, Nat.reduceAdd, l_0, l_1, l_2, l_3, l_4, l_5, l_6, l_7, l_8, l_9, l_10, l_11, l_12, l_13, l_14, l_15, l_16, l_17, l_18, l_19, l_20, l_24, l_32, l_40, l_41, l_42, l_43, l_45, l_48, l_57, l_59, l_60, l_61, l_63, l_64, l_80, l_96, l_97, l_99, l_100, l_122, l_160, l_200, l_320, l_640, l_999, l_1000, l_1200, l_4000, l_99999, l_100000, l_100001, l_100002, l_100006, l_100010, l_252645135, l_858993459, l_1431655765, n_cl, n_lt, n_le, n_eq, n_in, n_add, n_mul, n_sub, n_div, n_mod, n_addneg, n_negl, n_nege, Nat.add_sub_cancel, d_ltT, d_ltF, d_leT, d_leF, d_eqT, d_eqF, ↓reduceIte, Nat.reduceLeDiff, Nat.reduceAdd, Nat.reduceMul, Nat.reduceSub, Nat.reduceLT, Nat.zero_add, Nat.add_zero, not_false_eq_true, pK_45, pK_46, pK_47, pK_48, pK_49, pK_50, pK_51, pK_52, pK_53, pK_54, pK_55, pK_56, pR_45_0, pR_45_10, pR_45_11, pR_45_12, pR_46_0, pR_46_1, pR_46_2, pR_46_3, pR_46_4, pR_46_5, pR_46_6, pR_45_2, pR_45_3, pR_45_4, e1, x0, x1, x2, b_0eq]
    by_cases h0 : w < p_abs (R k 0)
    · rw [if_pos h0, if_pos (by unfold p_out; exact decide_eq_true (.inl h0))]
    · rw [if_neg h0]
      by_cases h1 : w < p_abs (R k 1)
      · rw [if_neg (Int32.not_le.2 h1), if_pos (by unfold p_out; exact decide_eq_true (.inr (.inl h1)))]
      · rw [if_pos (Int32.not_lt.1 h1)]
        by_cases h2 : h < R k 2
        · rw [if_neg (Int32.not_le.2 h2), if_pos (by unfold p_out; exact decide_eq_true (.inr (.inr h2)))]
        · rw [if_pos (Int32.not_lt.1 h2), if_neg (by unfold p_out; rw [decide_eq_false (by rintro (h | h | h) <;> contradiction)]; decide)]
          exact s_beyond_loop hF m (k + 1) _ (by omega)
theorem s_beyond (hF : p_fd I R) {w h : Int32} : q_wp (d + 2) c 20 0 [.ref 45, .int w, .int h, q_jk, q_jk] [] (p_h L I r dk n) Q = Q (some (.int (p_find (p_out R w h) (p_last R + 1) 0))) (p_h L I r dk n) := by
  refine Eq.trans ?_ (s_beyond_loop (d := d) (c := c) hF (p_last R + 1) 0 q_jk (by omega))
  simp (disch := omega) only [r20_0, r20_1, va_rf_some, va_rf_none, cat_int, cat_ref, cat_null, cat_jk, q_cs_nil, q_cs_int, q_cs_ref, q_cs_long, q_tl_some, q_tl_none, nz_0, nz_1, nzn_0, nzn_1, nz_b, true_and, and_true, Nat.reduceLeDiff, Nat.reduceAdd, l_0, l_1, l_2, l_3, l_4, l_5, l_6, l_7, l_8, l_9, l_10, l_11, l_12, l_13, l_14, l_15, l_16, l_17, l_18, l_19, l_20, l_24, l_32, l_40, l_41, l_42, l_43, l_45, l_48, l_57, l_59, l_60, l_61, l_63, l_64, l_80, l_96, l_97, l_99, l_100, l_122, l_160, l_200, l_320, l_640, l_999, l_1000, l_1200, l_4000, l_99999, l_100000, l_100001, l_100002, l_100006, l_100010, l_252645135, l_858993459, l_1431655765, n_cl, n_lt, n_le, n_eq, n_in, n_add, n_mul, n_sub, n_div, n_mod, n_addneg, n_negl, n_nege, Nat.add_sub_cancel, d_ltT, d_ltF, d_leT, d_leF, d_eqT, d_eqF, ↓reduceIte, Nat.reduceLeDiff, Nat.reduceAdd, Nat.reduceMul, Nat.reduceSub, Nat.reduceLT, Nat.zero_add, Nat.add_zero, not_false_eq_true]
end
