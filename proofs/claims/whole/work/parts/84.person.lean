/-! person, walks: the calls -/
def t_walks (M : Nat → Nat → Int32) (p x y : Int32) : Nat → Nat → Int32 := if Int32.ofNat 0 ≤ p ∧ p ≤ Int32.ofNat (p_ppl M) - Int32.ofNat 1 then (if p_spot x y then q_up (q_up M 150 p.toNatClampNeg x) 151 p.toNatClampNeg y else M) else M
def a_walks (M : Nat → Nat → Int32) (p x y : Int32) : Int32 := if Int32.ofNat 0 ≤ p ∧ p ≤ Int32.ofNat (p_ppl M) - Int32.ofNat 1 then (if p_spot x y then p else -2) else -1
section
variable {d c L n : Nat} {Q : Option Value → q_H → Prop} {I M : Nat → Nat → Int32} {r : Nat → Nat → Option Nat} {dk : Nat → Nat × Nat}
theorem c_walks (hW : p_wf M) (hC : p_CR L r dk n I M) {p x y : Int32} (hQ : ∀ I', p_cc I I' → p_CR L r dk n I' (t_walks M p x y) → Q (some (.int (a_walks M p x y))) (p_h L I' r dk n)) :
    q_wp (d + 9) c 7038 0 [.ref 32, .int p, .int x, .int y] [] (p_h L I r dk n) Q := by
  obtain ⟨e, h6⟩ := p_ppl_eq hW
  have e2 : I 37 2 = Int32.ofNat (p_ppl M) := hC.2.2.2.2.2.1.1.trans e
  unfold t_walks a_walks at hQ
  by_cases hp : Int32.ofNat 0 ≤ p ∧ p ≤ Int32.ofNat (p_ppl M) - Int32.ofNat 1
  · simp only [if_pos hp] at hQ
    have hp2 := hp
    rw [p_is_iff (by omega)] at hp2
    obtain ⟨k, hk, rfl⟩ := hp2
    rw [n_cl (by omega)] at hQ
    by_cases hs : p_spot x y
    · simp only [if_pos hs] at hQ
      simp (disch := omega) only [r7038_0, r7038_1, r7038_2, r7038_3, r7038_6, r7038_9, r7038_10, r7038_11, r7038_14, r7038_17, r7038_18, r7038_19, r7038_20, r7038_23, r7038_24, r7038_25, r7038_28, r7038_31, r7038_33, r7038_34, r7038_35, r7038_38, r7038_41, r7038_42, r7038_43, r7038_44, r7038_45, r7038_48, r7038_51, r7038_52, r7038_53, r7038_54, r7038_55, s_within, s_isPlace, hs, e2, hp, b_eq0, b_eq1, b_0eq, ite_not, not_true_eq_false, not_false_eq_true, ↓reduceIte, va_rf_some, va_rf_none, cat_int, cat_ref, cat_null, cat_jk, q_cs_nil, q_cs_int, q_cs_ref, q_cs_long, q_tl_some, q_tl_none, nz_0, nz_1, nzn_0, nzn_1, nz_b, true_and, and_true, Nat.reduceLeDiff, Nat.reduceAdd, l_0, l_1, l_2, l_3, l_4, l_5, l_6, l_7, l_8, l_9, l_10, l_11, l_12, l_13, l_14, l_15, l_16, l_17, l_18, l_19, l_20, l_24, l_32, l_40, l_41, l_42, l_43, l_45, l_48, l_57, l_59, l_60, l_61, l_63, l_64, l_80, l_96, l_97, l_99, l_100, l_122, l_160, l_200, l_320, l_640, l_999, l_1000, l_1200, l_4000, l_99999, l_100000, l_100001, l_100002, l_100006, l_100010, l_252645135, l_858993459, l_1431655765, n_cl, n_lt, n_le, n_eq, n_in, n_add, n_mul, n_sub, n_div, n_mod, n_addneg, n_negl, n_nege, Nat.add_sub_cancel, d_ltT, d_ltF, d_leT, d_leF, d_eqT, d_eqF, ↓reduceIte, Nat.reduceLeDiff, Nat.reduceAdd, Nat.reduceMul, Nat.reduceSub, Nat.reduceLT, Nat.zero_add, Nat.add_zero, not_false_eq_true, pK_32, pK_33, pK_34, pK_35, pK_36, pK_37, pK_38, pK_39, pK_40, pK_41, pK_42, pK_43, pK_44, pR_32_0, pR_32_1, pR_32_2, pR_32_3, pR_32_4, pR_32_5, pR_32_6, pR_32_7, pR_32_8, pR_33_0, pR_33_1, pR_33_2, pR_33_3, pR_36_0, pR_36_1, pR_36_2, pR_36_3, pR_37_0, pR_37_1, pR_37_3, pR_37_4, pR_42_0, pR_42_3, pK_124, pK_125, pK_126, pK_127, pK_128, pK_129, pK_130, pK_131, pK_132, pK_133, pK_134, pR_124_0, pR_126_0, pR_128_0, pR_130_0, pR_134_0, pR_134_1, and_self]
      rw [if_pos hs]
      refine hQ _ (fun a ha => by rw [q_up_fa (by omega), q_up_fa (by omega)]) ?_
      have hI : ∀ a, a ≠ 38 → a ≠ 39 → q_up (q_up I 38 k x) 39 k y a = I a := fun a a1 a2 => by rw [q_up_fa a2, q_up_fa a1]
      have hM : ∀ a, a ≠ 150 → a ≠ 151 → q_up (q_up M 150 k x) 151 k y a = M a := fun a a1 a2 => by rw [q_up_fa a2, q_up_fa a1]
      have hM5 : q_up (q_up M 150 k x) 151 k y 135 = M 135 := hM 135 (by decide) (by decide)
      refine ⟨k1 hC (hI 32 (by decide) (by decide)) (fun k _ => .inr (.inr (.inr (by rw [hM5])))), k2 hC (fun a ha => hI a (by omega) (by omega)) (fun a ha => hM a (by omega) (by omega)), k3 hC (fun a ha => hI a (by omega) (by omega)) (fun a ha => hM a (by omega) (by omega)) (by rw [hM5]), k4 hC (fun a ha => hI a (by omega) (by omega)) (fun a ha => hM a (by omega) (by omega)) (by rw [hM5]), k5 hC (fun a ha => hI a (by omega) (by omega)) (fun a ha => hM a (by omega) (by omega)), ?_, k7 hC (fun a ha => hI a (by omega) (by omega)) (hM 152 (by decide) (by decide)) (by rw [hM5]), k8 hC (fun a ha => hI a (by omega) (by omega)) (hM 136 (by decide) (by decide)), hC.2.2.2.2.2.2.2.2⟩
      obtain ⟨g1, g2, g3, g4⟩ := hC.2.2.2.2.2.1
      have epl : p_ppl (q_up (q_up M 150 k x) 151 k y) = p_ppl M := by unfold p_ppl; rw [hM5]
      have eip : p_ipl (q_up (q_up M 150 k x) 151 k y) = p_ipl M := by unfold p_ipl; rw [hM5]
      rw [hI 37 (by decide) (by decide), hI 40 (by decide) (by decide), hI 41 (by decide) (by decide), hM5, epl, eip, hM 159 (by decide) (by decide), hM 160 (by decide) (by decide)]
      refine ⟨g1, fun j hj => ?_, g3, g4⟩
      rw [q_up_fa (show 38 ≠ 39 by decide), q_up_fa (show 150 ≠ 151 by decide)]
      by_cases ej : j = k
      · subst ej
        rw [q_up_same, q_up_same, q_up_same, q_up_same]
        exact ⟨rfl, rfl⟩
      · simp (disch := omega) only [q_up_k, q_up_fa]
        exact g2 j hj
    · simp only [if_neg hs] at hQ
      simp (disch := omega) only [r7038_0, r7038_1, r7038_2, r7038_3, r7038_6, r7038_9, r7038_10, r7038_11, r7038_14, r7038_17, r7038_18, r7038_19, r7038_20, r7038_23, r7038_24, r7038_25, r7038_28, r7038_31, r7038_33, s_within, s_isPlace, hs, e2, hp, b_eq0, b_eq1, b_0eq, ite_not, not_true_eq_false, not_false_eq_true, ↓reduceIte, va_rf_some, va_rf_none, cat_int, cat_ref, cat_null, cat_jk, q_cs_nil, q_cs_int, q_cs_ref, q_cs_long, q_tl_some, q_tl_none, nz_0, nz_1, nzn_0, nzn_1, nz_b, true_and, and_true, Nat.reduceLeDiff, Nat.reduceAdd, l_0, l_1, l_2, l_3, l_4, l_5, l_6, l_7, l_8, l_9, l_10, l_11, l_12, l_13, l_14, l_15, l_16, l_17, l_18, l_19, l_20, l_24, l_32, l_40, l_41, l_42, l_43, l_45, l_48, l_57, l_59, l_60, l_61, l_63, l_64, l_80, l_96, l_97, l_99, l_100, l_122, l_160, l_200, l_320, l_640, l_999, l_1000, l_1200, l_4000, l_99999, l_100000, l_100001, l_100002, l_100006, l_100010, l_252645135, l_858993459, l_1431655765, n_cl, n_lt, n_le, n_eq, n_in, n_add, n_mul, n_sub, n_div, n_mod, n_addneg, n_negl, n_nege, Nat.add_sub_cancel, d_ltT, d_ltF, d_leT, d_leF, d_eqT, d_eqF, ↓reduceIte, Nat.reduceLeDiff, Nat.reduceAdd, Nat.reduceMul, Nat.reduceSub, Nat.reduceLT, Nat.zero_add, Nat.add_zero, not_false_eq_true, pK_32, pK_33, pK_34, pK_35, pK_36, pK_37, pK_38, pK_39, pK_40, pK_41, pK_42, pK_43, pK_44, pR_32_0, pR_32_1, pR_32_2, pR_32_3, pR_32_4, pR_32_5, pR_32_6, pR_32_7, pR_32_8, pR_33_0, pR_33_1, pR_33_2, pR_33_3, pR_36_0, pR_36_1, pR_36_2, pR_36_3, pR_37_0, pR_37_1, pR_37_3, pR_37_4, pR_42_0, pR_42_3, pK_124, pK_125, pK_126, pK_127, pK_128, pK_129, pK_130, pK_131, pK_132, pK_133, pK_134, pR_124_0, pR_126_0, pR_128_0, pR_130_0, pR_134_0, pR_134_1, and_self]
      exact hQ I (fun _ _ => rfl) hC
  · simp only [if_neg hp] at hQ
    simp (disch := omega) only [r7038_0, r7038_1, r7038_2, r7038_3, r7038_6, r7038_9, r7038_10, r7038_11, r7038_14, r7038_17, r7038_18, s_within, e2, hp, b_eq0, b_eq1, b_0eq, ite_not, not_true_eq_false, not_false_eq_true, ↓reduceIte, va_rf_some, va_rf_none, cat_int, cat_ref, cat_null, cat_jk, q_cs_nil, q_cs_int, q_cs_ref, q_cs_long, q_tl_some, q_tl_none, nz_0, nz_1, nzn_0, nzn_1, nz_b, true_and, and_true, Nat.reduceLeDiff, Nat.reduceAdd, l_0, l_1, l_2, l_3, l_4, l_5, l_6, l_7, l_8, l_9, l_10, l_11, l_12, l_13, l_14, l_15, l_16, l_17, l_18, l_19, l_20, l_24, l_32, l_40, l_41, l_42, l_43, l_45, l_48, l_57, l_59, l_60, l_61, l_63, l_64, l_80, l_96, l_97, l_99, l_100, l_122, l_160, l_200, l_320, l_640, l_999, l_1000, l_1200, l_4000, l_99999, l_100000, l_100001, l_100002, l_100006, l_100010, l_252645135, l_858993459, l_1431655765, n_cl, n_lt, n_le, n_eq, n_in, n_add, n_mul, n_sub, n_div, n_mod, n_addneg, n_negl, n_nege, Nat.add_sub_cancel, d_ltT, d_ltF, d_leT, d_leF, d_eqT, d_eqF, ↓reduceIte, Nat.reduceLeDiff, Nat.reduceAdd, Nat.reduceMul, Nat.reduceSub, Nat.reduceLT, Nat.zero_add, Nat.add_zero, not_false_eq_true, pK_32, pK_33, pK_34, pK_35, pK_36, pK_37, pK_38, pK_39, pK_40, pK_41, pK_42, pK_43, pK_44, pR_32_0, pR_32_1, pR_32_2, pR_32_3, pR_32_4, pR_32_5, pR_32_6, pR_32_7, pR_32_8, pR_33_0, pR_33_1, pR_33_2, pR_33_3, pR_36_0, pR_36_1, pR_36_2, pR_36_3, pR_37_0, pR_37_1, pR_37_3, pR_37_4, pR_42_0, pR_42_3, pK_124, pK_125, pK_126, pK_127, pK_128, pK_129, pK_130, pK_131, pK_132, pK_133, pK_134, pR_124_0, pR_126_0, pR_128_0, pR_130_0, pR_134_0, pR_134_1]
    exact hQ I (fun _ _ => rfl) hC
theorem m_walks (hW : p_wf M) (hM : p_MR I M) {p x y : Int32} (hQ : ∀ I', p_mc I I' → p_MR I' (t_walks M p x y) → Q (some (.int (a_walks M p x y))) (p_h L I' r dk n)) :
    q_wp (d + 9) c 8080 0 [.ref 135, .int p, .int x, .int y] [] (p_h L I r dk n) Q := by
  obtain ⟨e, h6⟩ := p_ppl_eq hW
  have e2 : I 135 18 = Int32.ofNat (p_ppl M) := (hM.2 18 (by decide)).trans e
  unfold t_walks a_walks at hQ
  by_cases hp : Int32.ofNat 0 ≤ p ∧ p ≤ Int32.ofNat (p_ppl M) - Int32.ofNat 1
  · simp only [if_pos hp] at hQ
    have hp2 := hp
    rw [p_is_iff (by omega)] at hp2
    obtain ⟨k, hk, rfl⟩ := hp2
    rw [n_cl (by omega)] at hQ
    by_cases hs : p_spot x y
    · simp only [if_pos hs] at hQ
      simp (disch := omega) only [r8080_0, r8080_1, r8080_2, r8080_3, r8080_6, r8080_7, r8080_8, r8080_11, r8080_14, r8080_15, r8080_16, r8080_17, r8080_18, r8080_21, r8080_24, r8080_26, r8080_27, r8080_28, r8080_31, r8080_32, r8080_33, r8080_34, r8080_35, r8080_38, r8080_39, r8080_40, r8080_41, r8080_42, m_in, m_isSpot, hs, e2, hp, b_eq0, b_eq1, b_0eq, ite_not, not_true_eq_false, not_false_eq_true, ↓reduceIte, va_rf_some, va_rf_none, cat_int, cat_ref, cat_null, cat_jk, q_cs_nil, q_cs_int, q_cs_ref, q_cs_long, q_tl_some, q_tl_none, nz_0, nz_1, nzn_0, nzn_1, nz_b, true_and, and_true, Nat.reduceLeDiff, Nat.reduceAdd, l_0, l_1, l_2, l_3, l_4, l_5, l_6, l_7, l_8, l_9, l_10, l_11, l_12, l_13, l_14, l_15, l_16, l_17, l_18, l_19, l_20, l_24, l_32, l_40, l_41, l_42, l_43, l_45, l_48, l_57, l_59, l_60, l_61, l_63, l_64, l_80, l_96, l_97, l_99, l_100, l_122, l_160, l_200, l_320, l_640, l_999, l_1000, l_1200, l_4000, l_99999, l_100000, l_100001, l_100002, l_100006, l_100010, l_252645135, l_858993459, l_1431655765, n_cl, n_lt, n_le, n_eq, n_in, n_add, n_mul, n_sub, n_div, n_mod, n_addneg, n_negl, n_nege, Nat.add_sub_cancel, d_ltT, d_ltF, d_leT, d_leF, d_eqT, d_eqF, ↓reduceIte, Nat.reduceLeDiff, Nat.reduceAdd, Nat.reduceMul, Nat.reduceSub, Nat.reduceLT, Nat.zero_add, Nat.add_zero, not_false_eq_true, pK_135, pK_136, pK_137, pK_138, pK_139, pK_140, pK_141, pK_142, pK_143, pK_144, pK_145, pK_146, pK_147, pK_148, pK_149, pK_150, pK_151, pK_152, pK_153, pK_154, pK_155, pK_156, pK_157, pK_158, pK_159, pK_160, pK_161, pK_162, pK_163, pK_164, pK_165, pK_166, pK_167, pK_168, pK_169, pK_170, pK_171, pK_172, pK_173, pK_174, pK_175, pK_176, pK_177, pK_178, pR_135_0, pR_135_2, pR_135_3, pR_135_4, pR_135_5, pR_135_6, pR_135_7, pR_135_11, pR_135_12, pR_135_13, pR_135_14, pR_135_15, pR_135_16, pR_135_17, pR_135_19, pR_135_20, pR_135_21, pR_135_23, pR_135_24, pR_135_33, pR_135_34, pR_135_35, pR_135_36, pR_135_37, pR_135_38, pR_135_39, pR_135_40, pR_135_41, pR_135_46, pR_135_47, pR_135_51, pR_135_52, pR_135_53, pR_135_54, pR_135_55, pR_135_56, pR_135_57, pR_135_58, pR_135_59, pR_135_61, pR_135_62, pR_135_63, pR_135_64, and_self]
      rw [if_pos hs]
      refine hQ _ (fun a ha => by rw [q_up_fa (by omega), q_up_fa (by omega)]) ⟨fun a a1 a2 => ?_, fun j hj => ?_⟩
      · by_cases b1 : a = 151
        · subst b1
          funext j
          by_cases ej : j = k
          · subst ej; rw [q_up_same, q_up_same]
          · have := congrFun (hM.1 151 (by decide) (by decide)) j
            simp (disch := omega) only [q_up_k, q_up_fa]
            exact this
        · by_cases b0 : a = 150
          · subst b0
            funext j
            by_cases ej : j = k
            · subst ej; simp (disch := omega) only [q_up_fa, q_up_same]
            · have := congrFun (hM.1 150 (by decide) (by decide)) j
              simp (disch := omega) only [q_up_k, q_up_fa]
              exact this
          · rw [q_up_fa b1, q_up_fa b1, q_up_fa b0, q_up_fa b0, hM.1 a a1 a2]
      · rw [q_up_fa (by decide), q_up_fa (by decide), q_up_fa (by decide), q_up_fa (by decide)]
        exact hM.2 j hj
    · simp only [if_neg hs] at hQ
      simp (disch := omega) only [r8080_0, r8080_1, r8080_2, r8080_3, r8080_6, r8080_7, r8080_8, r8080_11, r8080_14, r8080_15, r8080_16, r8080_17, r8080_18, r8080_21, r8080_24, r8080_26, m_in, m_isSpot, hs, e2, hp, b_eq0, b_eq1, b_0eq, ite_not, not_true_eq_false, not_false_eq_true, ↓reduceIte, va_rf_some, va_rf_none, cat_int, cat_ref, cat_null, cat_jk, q_cs_nil, q_cs_int, q_cs_ref, q_cs_long, q_tl_some, q_tl_none, nz_0, nz_1, nzn_0, nzn_1, nz_b, true_and, and_true, Nat.reduceLeDiff, Nat.reduceAdd, l_0, l_1, l_2, l_3, l_4, l_5, l_6, l_7, l_8, l_9, l_10, l_11, l_12, l_13, l_14, l_15, l_16, l_17, l_18, l_19, l_20, l_24, l_32, l_40, l_41, l_42, l_43, l_45, l_48, l_57, l_59, l_60, l_61, l_63, l_64, l_80, l_96, l_97, l_99, l_100, l_122, l_160, l_200, l_320, l_640, l_999, l_1000, l_1200, l_4000, l_99999, l_100000, l_100001, l_100002, l_100006, l_100010, l_252645135, l_858993459, l_1431655765, n_cl, n_lt, n_le, n_eq, n_in, n_add, n_mul, n_sub, n_div, n_mod, n_addneg, n_negl, n_nege, Nat.add_sub_cancel, d_ltT, d_ltF, d_leT, d_leF, d_eqT, d_eqF, ↓reduceIte, Nat.reduceLeDiff, Nat.reduceAdd, Nat.reduceMul, Nat.reduceSub, Nat.reduceLT, Nat.zero_add, Nat.add_zero, not_false_eq_true, pK_135, pK_136, pK_137, pK_138, pK_139, pK_140, pK_141, pK_142, pK_143, pK_144, pK_145, pK_146, pK_147, pK_148, pK_149, pK_150, pK_151, pK_152, pK_153, pK_154, pK_155, pK_156, pK_157, pK_158, pK_159, pK_160, pK_161, pK_162, pK_163, pK_164, pK_165, pK_166, pK_167, pK_168, pK_169, pK_170, pK_171, pK_172, pK_173, pK_174, pK_175, pK_176, pK_177, pK_178, pR_135_0, pR_135_2, pR_135_3, pR_135_4, pR_135_5, pR_135_6, pR_135_7, pR_135_11, pR_135_12, pR_135_13, pR_135_14, pR_135_15, pR_135_16, pR_135_17, pR_135_19, pR_135_20, pR_135_21, pR_135_23, pR_135_24, pR_135_33, pR_135_34, pR_135_35, pR_135_36, pR_135_37, pR_135_38, pR_135_39, pR_135_40, pR_135_41, pR_135_46, pR_135_47, pR_135_51, pR_135_52, pR_135_53, pR_135_54, pR_135_55, pR_135_56, pR_135_57, pR_135_58, pR_135_59, pR_135_61, pR_135_62, pR_135_63, pR_135_64, and_self]
      exact hQ I (fun _ _ => rfl) hM
  · simp only [if_neg hp] at hQ
    simp (disch := omega) only [r8080_0, r8080_1, r8080_2, r8080_3, r8080_6, r8080_7, r8080_8, r8080_11, r8080_14, r8080_15, m_in, e2, hp, b_eq0, b_eq1, b_0eq, ite_not, not_true_eq_false, not_false_eq_true, ↓reduceIte, va_rf_some, va_rf_none, cat_int, cat_ref, cat_null, cat_jk, q_cs_nil, q_cs_int, q_cs_ref, q_cs_long, q_tl_some, q_tl_none, nz_0, nz_1, nzn_0, nzn_1, nz_b, true_and, and_true, Nat.reduceLeDiff, Nat.reduceAdd, l_0, l_1, l_2, l_3, l_4, l_5, l_6, l_7, l_8, l_9, l_10, l_11, l_12, l_13, l_14, l_15, l_16, l_17, l_18, l_19, l_20, l_24, l_32, l_40, l_41, l_42, l_43, l_45, l_48, l_57, l_59, l_60, l_61, l_63, l_64, l_80, l_96, l_97, l_99, l_100, l_122, l_160, l_200, l_320, l_640, l_999, l_1000, l_1200, l_4000, l_99999, l_100000, l_100001, l_100002, l_100006, l_100010, l_252645135, l_858993459, l_1431655765, n_cl, n_lt, n_le, n_eq, n_in, n_add, n_mul, n_sub, n_div, n_mod, n_addneg, n_negl, n_nege, Nat.add_sub_cancel, d_ltT, d_ltF, d_leT, d_leF, d_eqT, d_eqF, ↓reduceIte, Nat.reduceLeDiff, Nat.reduceAdd, Nat.reduceMul, Nat.reduceSub, Nat.reduceLT, Nat.zero_add, Nat.add_zero, not_false_eq_true, pK_135, pK_136, pK_137, pK_138, pK_139, pK_140, pK_141, pK_142, pK_143, pK_144, pK_145, pK_146, pK_147, pK_148, pK_149, pK_150, pK_151, pK_152, pK_153, pK_154, pK_155, pK_156, pK_157, pK_158, pK_159, pK_160, pK_161, pK_162, pK_163, pK_164, pK_165, pK_166, pK_167, pK_168, pK_169, pK_170, pK_171, pK_172, pK_173, pK_174, pK_175, pK_176, pK_177, pK_178, pR_135_0, pR_135_2, pR_135_3, pR_135_4, pR_135_5, pR_135_6, pR_135_7, pR_135_11, pR_135_12, pR_135_13, pR_135_14, pR_135_15, pR_135_16, pR_135_17, pR_135_19, pR_135_20, pR_135_21, pR_135_23, pR_135_24, pR_135_33, pR_135_34, pR_135_35, pR_135_36, pR_135_37, pR_135_38, pR_135_39, pR_135_40, pR_135_41, pR_135_46, pR_135_47, pR_135_51, pR_135_52, pR_135_53, pR_135_54, pR_135_55, pR_135_56, pR_135_57, pR_135_58, pR_135_59, pR_135_61, pR_135_62, pR_135_63, pR_135_64]
    exact hQ I (fun _ _ => rfl) hM
theorem wf_walks (hW : p_wf M) {p x y : Int32} : p_wf (t_walks M p x y) := by
  unfold t_walks
  split
  · split
    · generalize p.toNatClampNeg = k
      have hM : ∀ a, a ≠ 150 → a ≠ 151 → q_up (q_up M 150 k x) 151 k y a = M a := fun a a1 a2 => by rw [q_up_fa a2, q_up_fa a1]
      have hM5 : q_up (q_up M 150 k x) 151 k y 135 = M 135 := hM 135 (by decide) (by decide)
      have esn : p_sn (q_up (q_up M 150 k x) 151 k y) = p_sn M := by unfold p_sn; rw [hM5]
      exact ⟨by rw [hM5]; exact hW.1, w2 hW (fun a ha => hM a (by omega) (by omega)), w3 hW (by rw [hM5]) (by rw [hM5]), w4 hW (fun a ha => hM a (by omega) (by omega)) (by rw [hM5]) (by omega), by rw [hM5]; exact hW.2.2.2.2.1, w6 hW (hM 152 (by decide) (by decide)) (by rw [hM5]), w7 hW (fun a ha => hM a (by omega) (by omega)) (by rw [hM5]) (by rw [hM5]) (by rw [hM5]), w8 hW (fun a ha => hM a (by omega) (by omega)) (by rw [hM5]) (by rw [hM5]) (by rw [hM5]) (by rw [hM5]), w9 hW (fun a ha => hM a (by omega) (by omega)), w10 hW (hM 136 (by decide) (by decide))⟩
    · exact hW
  · exact hW
end
