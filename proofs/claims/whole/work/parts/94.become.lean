/-! a sheet becomes new -/
section
variable {d c L n : Nat} {Q : Option Value → q_H → Prop} {I : Nat → Nat → Int32} {r : Nat → Nat → Option Nat} {dk : Nat → Nat × Nat}
/-- the first k cells of a are 0, all others as before -/
def p_zer (I I' : Nat → Nat → Int32) (a k : Nat) : Prop := (∀ b, b ≠ a → I' b = I b) ∧ ∀ j, I' a j = if j < k then 0 else I a j
theorem s_bec_loop {s : Nat} {x y : Int32} {I0 : Nat → Nat → Int32} (hs : s < 4) (hQ : ∀ I', p_zer I0 I' (125 + 2 * s) 80 → Q none (p_h L I' r dk n)) :
    ∀ (m k : Nat) (I : Nat → Nat → Int32), k + m = 80 → p_zer I0 I (125 + 2 * s) k → q_wp (d + 1) c 4001 12 [.ref (124 + 2 * s), .int x, .int y, .int (Int32.ofNat k)] [] (p_h L I r dk n) Q
  | 0, k, I, hk, h1 => by
    obtain rfl : k = 80 := hk
    rw [r4001_12]
    simp (disch := omega) only [r4001_13, r4001_15, r4001_31, va_rf_some, va_rf_none, cat_int, cat_ref, cat_null, cat_jk, q_cs_nil, q_cs_int, q_cs_ref, q_cs_long, q_tl_some, q_tl_none, nz_0, nz_1, nzn_0, nzn_1, nz_b, true_and, and_true, Nat.reduceLeDiff, Nat.reduceAdd, l_0, l_1, l_2, l_3, l_4, l_5, l_6, l_7, l_8, l_9, l_10, l_11, l_12, l_13, l_14, l_15, l_16, l_17, l_18, l_19, l_20, l_24, l_32, l_40, l_41, l_42, l_43, l_45, l_48, l_57, l_59, l_60, l_61, l_63, l_64, l_80, l_96, l_97, l_99, l_100, l_122, l_160, l_200, l_320, l_640, l_999, l_1000, l_1200, l_4000, l_99999, l_100000, l_100001, l_100002, l_100006, l_100010, l_252645135, l_858993459, l_1431655765, n_cl, n_lt, n_le, n_eq, n_in, n_add, n_mul, n_sub, n_div, n_mod, n_addneg, n_negl, n_nege, Nat.add_sub_cancel, d_ltT, d_ltF, d_leT, d_leF, d_eqT, d_eqF, ↓reduceIte, Nat.reduceLeDiff, Nat.reduceAdd, Nat.reduceMul, Nat.reduceSub, Nat.reduceLT, Nat.zero_add, Nat.add_zero, not_false_eq_true, pK_32, pK_33, pK_34, pK_35, pK_36, pK_37, pK_38, pK_39, pK_40, pK_41, pK_42, pK_43, pK_44, pR_32_0, pR_32_1, pR_32_2, pR_32_3, pR_32_4, pR_32_5, pR_32_6, pR_32_7, pR_32_8, pR_33_0, pR_33_1, pR_33_2, pR_33_3, pR_36_0, pR_36_1, pR_36_2, pR_36_3, pR_37_0, pR_37_1, pR_37_3, pR_37_4, pR_42_0, pR_42_3, pK_124, pK_125, pK_126, pK_127, pK_128, pK_129, pK_130, pK_131, pK_132, pK_133, pK_134, pR_124_0, pR_126_0, pR_128_0, pR_130_0, pR_134_0, pR_134_1]
    exact hQ I h1
  | m + 1, k, I, hk, h1 => by
    obtain ⟨k1, k2, k3, k4⟩ := k_she (L := L) (r := r) (dk := dk) hs
    have h132 : 32 ≤ 124 + 2 * s := by omega
    have h133 : 32 ≤ 125 + 2 * s := by omega
    rw [r4001_12]
    simp (disch := omega) only [r4001_13, r4001_15, r4001_18, r4001_19, r4001_22, r4001_23, r4001_24, r4001_25, r4001_28, k1, k2, k3, h132, h133, va_rf_some, va_rf_none, cat_int, cat_ref, cat_null, cat_jk, q_cs_nil, q_cs_int, q_cs_ref, q_cs_long, q_tl_some, q_tl_none, nz_0, nz_1, nzn_0, nzn_1, nz_b, true_and, and_true, Nat.reduceLeDiff, Nat.reduceAdd, l_0, l_1, l_2, l_3, l_4, l_5, l_6, l_7, l_8, l_9, l_10, l_11, l_12, l_13, l_14, l_15, l_16, l_17, l_18, l_19, l_20, l_24, l_32, l_40, l_41, l_42, l_43, l_45, l_48, l_57, l_59, l_60, l_61, l_63, l_64, l_80, l_96, l_97, l_99, l_100, l_122, l_160, l_200, l_320, l_640, l_999, l_1000, l_1200, l_4000, l_99999, l_100000, l_100001, l_100002, l_100006, l_100010, l_252645135, l_858993459, l_1431655765, n_cl, n_lt, n_le, n_eq, n_in, n_add, n_mul, n_sub, n_div, n_mod, n_addneg, n_negl, n_nege, Nat.add_sub_cancel, d_ltT, d_ltF, d_leT, d_leF, d_eqT, d_eqF, ↓reduceIte, Nat.reduceLeDiff, Nat.reduceAdd, Nat.reduceMul, Nat.reduceSub, Nat.reduceLT, Nat.zero_add, Nat.add_zero, not_false_eq_true, pK_32, pK_33, pK_34, pK_35, pK_36, pK_37, pK_38, pK_39, pK_40, pK_41, pK_42, pK_43, pK_44, pR_32_0, pR_32_1, pR_32_2, pR_32_3, pR_32_4, pR_32_5, pR_32_6, pR_32_7, pR_32_8, pR_33_0, pR_33_1, pR_33_2, pR_33_3, pR_36_0, pR_36_1, pR_36_2, pR_36_3, pR_37_0, pR_37_1, pR_37_3, pR_37_4, pR_42_0, pR_42_3, pK_124, pK_125, pK_126, pK_127, pK_128, pK_129, pK_130, pK_131, pK_132, pK_133, pK_134, pR_124_0, pR_126_0, pR_128_0, pR_130_0, pR_134_0, pR_134_1]
    refine s_bec_loop hs hQ m (k + 1) _ (by omega) ⟨fun b hb => (q_up_fa hb).trans (h1.1 b hb), fun j => ?_⟩
    by_cases e : j = k
    · subst e; rw [q_up_same, if_pos (by omega)]; rfl
    · rw [q_up_k e, h1.2 j]
      by_cases h : j < k
      · rw [if_pos h, if_pos (by omega)]
      · rw [if_neg h, if_neg (by omega)]
theorem s_becomes {s : Nat} {x y : Int32} (hs : s < 4) (hQ : ∀ I', p_zer (q_up (q_up I (124 + 2 * s) 1 x) (124 + 2 * s) 2 y) I' (125 + 2 * s) 80 → Q none (p_h L I' r dk n)) :
    q_wp (d + 1) c 4001 0 [.ref (124 + 2 * s), .int x, .int y, q_jk] [] (p_h L I r dk n) Q := by
  obtain ⟨k1, k2, k3, k4⟩ := k_she (L := L) (r := r) (dk := dk) hs
  have h132 : 32 ≤ 124 + 2 * s := by omega
  simp (disch := omega) only [r4001_0, r4001_1, r4001_2, r4001_5, r4001_6, r4001_7, r4001_10, r4001_11, k1, h132, va_rf_some, va_rf_none, cat_int, cat_ref, cat_null, cat_jk, q_cs_nil, q_cs_int, q_cs_ref, q_cs_long, q_tl_some, q_tl_none, nz_0, nz_1, nzn_0, nzn_1, nz_b, true_and, and_true, Nat.reduceLeDiff, Nat.reduceAdd, l_0, l_1, l_2, l_3, l_4, l_5, l_6, l_7, l_8, l_9, l_10, l_11, l_12, l_13, l_14, l_15, l_16, l_17, l_18, l_19, l_20, l_24, l_32, l_40, l_41, l_42, l_43, l_45, l_48, l_57, l_59, l_60, l_61, l_63, l_64, l_80, l_96, l_97, l_99, l_100, l_122, l_160, l_200, l_320, l_640, l_999, l_1000, l_1200, l_4000, l_99999, l_100000, l_100001, l_100002, l_100006, l_100010, l_252645135, l_858993459, l_1431655765, n_cl, n_lt, n_le, n_eq, n_in, n_add, n_mul, n_sub, n_div, n_mod, n_addneg, n_negl, n_nege, Nat.add_sub_cancel, d_ltT, d_ltF, d_leT, d_leF, d_eqT, d_eqF, ↓reduceIte, Nat.reduceLeDiff, Nat.reduceAdd, Nat.reduceMul, Nat.reduceSub, Nat.reduceLT, Nat.zero_add, Nat.add_zero, not_false_eq_true, pK_32, pK_33, pK_34, pK_35, pK_36, pK_37, pK_38, pK_39, pK_40, pK_41, pK_42, pK_43, pK_44, pR_32_0, pR_32_1, pR_32_2, pR_32_3, pR_32_4, pR_32_5, pR_32_6, pR_32_7, pR_32_8, pR_33_0, pR_33_1, pR_33_2, pR_33_3, pR_36_0, pR_36_1, pR_36_2, pR_36_3, pR_37_0, pR_37_1, pR_37_3, pR_37_4, pR_42_0, pR_42_3, pK_124, pK_125, pK_126, pK_127, pK_128, pK_129, pK_130, pK_131, pK_132, pK_133, pK_134, pR_124_0, pR_126_0, pR_128_0, pR_130_0, pR_134_0, pR_134_1]
  exact s_bec_loop hs hQ 80 0 _ (by omega) ⟨fun _ _ => rfl, fun j => by rw [if_neg (by omega)]⟩
end
