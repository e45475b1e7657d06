/-! stick -/
def t_stick (M : Nat → Nat → Int32) : Nat → Nat → Int32 := if p_sn M = 4 then M else q_up M 135 1 (Int32.ofNat (p_sn M + 1))
def a_stick (M : Nat → Nat → Int32) : Int32 := if p_sn M = 4 then -4 else Int32.ofNat (p_sn M)
section
variable {d c L n : Nat} {Q : Option Value → q_H → Prop} {I M : Nat → Nat → Int32} {r : Nat → Nat → Option Nat} {dk : Nat → Nat × Nat}
theorem c_stick (hW : p_wf M) (hC : p_CR L r dk n I M) (hQ : ∀ I', p_cc I I' → p_CR L r dk n I' (t_stick M) → Q (some (.int (a_stick M))) (p_h L I' r dk n)) :
    q_wp (d + 9) c 7001 0 [.ref 32] [] (p_h L I r dk n) Q := by
  obtain ⟨e, h4⟩ := p_sn_eq hW
  obtain ⟨a1, a2, a3, a4, a5, a6, a7, a8, a9, a10⟩ := id hC.1
  have e9 : I 32 9 = Int32.ofNat (p_sn M) := a1.trans e
  unfold t_stick a_stick at hQ
  by_cases h : p_sn M = 4
  · simp only [if_pos h] at hQ
    simp (disch := omega) only [r7001_0, r7001_1, r7001_4, r7001_5, r7001_8, r7001_10, r7001_11, r7001_12, r7001_13, r7001_16, r7001_17, r7001_18, r7001_19, r7001_22, e9, h, b_eq0, b_eq1, b_0eq, ite_not, not_true_eq_false, not_false_eq_true, ↓reduceIte, va_rf_some, va_rf_none, cat_int, cat_ref, cat_null, cat_jk, q_cs_nil, q_cs_int, q_cs_ref, q_cs_long, q_tl_some, q_tl_none, nz_0, nz_1, nzn_0, nzn_1, nz_b, true_and, and_true, Nat.reduceLeDiff, Nat.reduceAdd, l_0, l_1, l_2, l_3, l_4, l_5, l_6, l_7, l_8, l_9, l_10, l_11, l_12, l_13, l_14, l_15, l_16, l_17, l_18, l_19, l_20, l_24, l_32, l_40, l_41, l_42, l_43, l_45, l_48, l_57, l_59, l_60, l_61, l_63, l_64, l_80, l_96, l_97, l_99, l_100, l_122, l_160, l_200, l_320, l_640, l_999, l_1000, l_1200, l_4000, l_99999, l_100000, l_100001, l_100002, l_100006, l_100010, l_252645135, l_858993459, l_1431655765, n_cl, n_lt, n_le, n_eq, n_in, n_add, n_mul, n_sub, n_div, n_mod, n_addneg, n_negl, n_nege, Nat.add_sub_cancel, d_ltT, d_ltF, d_leT, d_leF, d_eqT, d_eqF, ↓reduceIte, Nat.reduceLeDiff, Nat.reduceAdd, Nat.reduceMul, Nat.reduceSub, Nat.reduceLT, Nat.zero_add, Nat.add_zero, not_false_eq_true, pK_32, pK_33, pK_34, pK_35, pK_36, pK_37, pK_38, pK_39, pK_40, pK_41, pK_42, pK_43, pK_44, pR_32_0, pR_32_1, pR_32_2, pR_32_3, pR_32_4, pR_32_5, pR_32_6, pR_32_7, pR_32_8, pR_33_0, pR_33_1, pR_33_2, pR_33_3, pR_36_0, pR_36_1, pR_36_2, pR_36_3, pR_37_0, pR_37_1, pR_37_3, pR_37_4, pR_42_0, pR_42_3, pK_124, pK_125, pK_126, pK_127, pK_128, pK_129, pK_130, pK_131, pK_132, pK_133, pK_134, pR_124_0, pR_126_0, pR_128_0, pR_130_0, pR_134_0, pR_134_1]
    exact hQ I (fun _ _ => rfl) hC
  · simp only [if_neg h] at hQ
    simp (disch := omega) only [r7001_0, r7001_1, r7001_4, r7001_5, r7001_8, r7001_10, r7001_11, r7001_12, r7001_13, r7001_16, r7001_17, r7001_18, r7001_19, r7001_22, e9, n_add, b_eq0, b_eq1, b_0eq, ite_not, not_true_eq_false, not_false_eq_true, ↓reduceIte, va_rf_some, va_rf_none, cat_int, cat_ref, cat_null, cat_jk, q_cs_nil, q_cs_int, q_cs_ref, q_cs_long, q_tl_some, q_tl_none, nz_0, nz_1, nzn_0, nzn_1, nz_b, true_and, and_true, Nat.reduceLeDiff, Nat.reduceAdd, l_0, l_1, l_2, l_3, l_4, l_5, l_6, l_7, l_8, l_9, l_10, l_11, l_12, l_13, l_14, l_15, l_16, l_17, l_18, l_19, l_20, l_24, l_32, l_40, l_41, l_42, l_43, l_45, l_48, l_57, l_59, l_60, l_61, l_63, l_64, l_80, l_96, l_97, l_99, l_100, l_122, l_160, l_200, l_320, l_640, l_999, l_1000, l_1200, l_4000, l_99999, l_100000, l_100001, l_100002, l_100006, l_100010, l_252645135, l_858993459, l_1431655765, n_cl, n_lt, n_le, n_eq, n_in, n_add, n_mul, n_sub, n_div, n_mod, n_addneg, n_negl, n_nege, Nat.add_sub_cancel, d_ltT, d_ltF, d_leT, d_leF, d_eqT, d_eqF, ↓reduceIte, Nat.reduceLeDiff, Nat.reduceAdd, Nat.reduceMul, Nat.reduceSub, Nat.reduceLT, Nat.zero_add, Nat.add_zero, not_false_eq_true, pK_32, pK_33, pK_34, pK_35, pK_36, pK_37, pK_38, pK_39, pK_40, pK_41, pK_42, pK_43, pK_44, pR_32_0, pR_32_1, pR_32_2, pR_32_3, pR_32_4, pR_32_5, pR_32_6, pR_32_7, pR_32_8, pR_33_0, pR_33_1, pR_33_2, pR_33_3, pR_36_0, pR_36_1, pR_36_2, pR_36_3, pR_37_0, pR_37_1, pR_37_3, pR_37_4, pR_42_0, pR_42_3, pK_124, pK_125, pK_126, pK_127, pK_128, pK_129, pK_130, pK_131, pK_132, pK_133, pK_134, pR_124_0, pR_126_0, pR_128_0, pR_130_0, pR_134_0, pR_134_1]
    refine hQ _ (fun a ha => q_up_fa (by omega)) (CR_set0 hC (fun a ha => q_up_fa ha) (fun a ha => q_up_fa ha) ?_ ?_)
    · simp (disch := omega) only [p_keep0, q_up_k, and_self]
    · simp (disch := omega) only [q_up_k, q_up_same, true_and, and_true]
      exact ⟨a2, a3, a4, a5, a6, a7, a8, a9, a10⟩
theorem m_stick (hW : p_wf M) (hM : p_MR I M) (hQ : ∀ I', p_mc I I' → p_MR I' (t_stick M) → Q (some (.int (a_stick M))) (p_h L I' r dk n)) :
    q_wp (d + 9) c 8006 0 [.ref 135] [] (p_h L I r dk n) Q := by
  obtain ⟨e, h4⟩ := p_sn_eq hW
  have e1 : I 135 1 = Int32.ofNat (p_sn M) := (hM.2 1 (by decide)).trans e
  unfold t_stick a_stick at hQ
  by_cases h : p_sn M = 4
  · simp only [if_pos h] at hQ
    simp (disch := omega) only [r8006_0, r8006_1, r8006_4, r8006_5, r8006_8, r8006_10, r8006_11, r8006_12, r8006_13, r8006_16, r8006_17, r8006_18, r8006_21, r8006_22, r8006_25, r8006_26, r8006_27, e1, h, b_eq0, b_eq1, b_0eq, ite_not, not_true_eq_false, not_false_eq_true, ↓reduceIte, va_rf_some, va_rf_none, cat_int, cat_ref, cat_null, cat_jk, q_cs_nil, q_cs_int, q_cs_ref, q_cs_long, q_tl_some, q_tl_none, nz_0, nz_1, nzn_0, nzn_1, nz_b, true_and, and_true, Nat.reduceLeDiff, Nat.reduceAdd, l_0, l_1, l_2, l_3, l_4, l_5, l_6, l_7, l_8, l_9, l_10, l_11, l_12, l_13, l_14, l_15, l_16, l_17, l_18, l_19, l_20, l_24, l_32, l_40, l_41, l_42, l_43, l_45, l_48, l_57, l_59, l_60, l_61, l_63, l_64, l_80, l_96, l_97, l_99, l_100, l_122, l_160, l_200, l_320, l_640, l_999, l_1000, l_1200, l_4000, l_99999, l_100000, l_100001, l_100002, l_100006, l_100010, l_252645135, l_858993459, l_1431655765, n_cl, n_lt, n_le, n_eq, n_in, n_add, n_mul, n_sub, n_div, n_mod, n_addneg, n_negl, n_nege, Nat.add_sub_cancel, d_ltT, d_ltF, d_leT, d_leF, d_eqT, d_eqF, ↓reduceIte, Nat.reduceLeDiff, Nat.reduceAdd, Nat.reduceMul, Nat.reduceSub, Nat.reduceLT, Nat.zero_add, Nat.add_zero, not_false_eq_true, pK_135, pK_136, pK_137, pK_138, pK_139, pK_140, pK_141, pK_142, pK_143, pK_144, pK_145, pK_146, pK_147, pK_148, pK_149, pK_150, pK_151, pK_152, pK_153, pK_154, pK_155, pK_156, pK_157, pK_158, pK_159, pK_160, pK_161, pK_162, pK_163, pK_164, pK_165, pK_166, pK_167, pK_168, pK_169, pK_170, pK_171, pK_172, pK_173, pK_174, pK_175, pK_176, pK_177, pK_178, pR_135_0, pR_135_2, pR_135_3, pR_135_4, pR_135_5, pR_135_6, pR_135_7, pR_135_11, pR_135_12, pR_135_13, pR_135_14, pR_135_15, pR_135_16, pR_135_17, pR_135_19, pR_135_20, pR_135_21, pR_135_23, pR_135_24, pR_135_33, pR_135_34, pR_135_35, pR_135_36, pR_135_37, pR_135_38, pR_135_39, pR_135_40, pR_135_41, pR_135_46, pR_135_47, pR_135_51, pR_135_52, pR_135_53, pR_135_54, pR_135_55, pR_135_56, pR_135_57, pR_135_58, pR_135_59, pR_135_61, pR_135_62, pR_135_63, pR_135_64]
    exact hQ I (fun _ _ => rfl) hM
  · simp only [if_neg h] at hQ
    have es : Int32.ofNat (p_sn M + 1) - Int32.ofNat 1 = Int32.ofNat (p_sn M) := by rw [n_sub (by omega)]; rfl
    simp (disch := omega) only [r8006_0, r8006_1, r8006_4, r8006_5, r8006_8, r8006_10, r8006_11, r8006_12, r8006_13, r8006_16, r8006_17, r8006_18, r8006_21, r8006_22, r8006_25, r8006_26, r8006_27, e1, n_add, es, q_up_same, b_eq0, b_eq1, b_0eq, ite_not, not_true_eq_false, not_false_eq_true, ↓reduceIte, va_rf_some, va_rf_none, cat_int, cat_ref, cat_null, cat_jk, q_cs_nil, q_cs_int, q_cs_ref, q_cs_long, q_tl_some, q_tl_none, nz_0, nz_1, nzn_0, nzn_1, nz_b, true_and, and_true, Nat.reduceLeDiff, Nat.reduceAdd, l_0, l_1, l_2, l_3, l_4, l_5, l_6, l_7, l_8, l_9, l_10, l_11, l_12, l_13, l_14, l_15, l_16, l_17, l_18, l_19, l_20, l_24, l_32, l_40, l_41, l_42, l_43, l_45, l_48, l_57, l_59, l_60, l_61, l_63, l_64, l_80, l_96, l_97, l_99, l_100, l_122, l_160, l_200, l_320, l_640, l_999, l_1000, l_1200, l_4000, l_99999, l_100000, l_100001, l_100002, l_100006, l_100010, l_252645135, l_858993459, l_1431655765, n_cl, n_lt, n_le, n_eq, n_in, n_add, n_mul, n_sub, n_div, n_mod, n_addneg, n_negl, n_nege, Nat.add_sub_cancel, d_ltT, d_ltF, d_leT, d_leF, d_eqT, d_eqF, ↓reduceIte, Nat.reduceLeDiff, Nat.reduceAdd, Nat.reduceMul, Nat.reduceSub, Nat.reduceLT, Nat.zero_add, Nat.add_zero, not_false_eq_true, pK_135, pK_136, pK_137, pK_138, pK_139, pK_140, pK_141, pK_142, pK_143, pK_144, pK_145, pK_146, pK_147, pK_148, pK_149, pK_150, pK_151, pK_152, pK_153, pK_154, pK_155, pK_156, pK_157, pK_158, pK_159, pK_160, pK_161, pK_162, pK_163, pK_164, pK_165, pK_166, pK_167, pK_168, pK_169, pK_170, pK_171, pK_172, pK_173, pK_174, pK_175, pK_176, pK_177, pK_178, pR_135_0, pR_135_2, pR_135_3, pR_135_4, pR_135_5, pR_135_6, pR_135_7, pR_135_11, pR_135_12, pR_135_13, pR_135_14, pR_135_15, pR_135_16, pR_135_17, pR_135_19, pR_135_20, pR_135_21, pR_135_23, pR_135_24, pR_135_33, pR_135_34, pR_135_35, pR_135_36, pR_135_37, pR_135_38, pR_135_39, pR_135_40, pR_135_41, pR_135_46, pR_135_47, pR_135_51, pR_135_52, pR_135_53, pR_135_54, pR_135_55, pR_135_56, pR_135_57, pR_135_58, pR_135_59, pR_135_61, pR_135_62, pR_135_63, pR_135_64]
    refine hQ _ (fun a ha => q_up_fa (by omega)) ⟨fun a a1 a2 => ?_, fun k hk => ?_⟩
    · rw [q_up_fa (by omega), q_up_fa (by omega)]; exact hM.1 a a1 a2
    · by_cases k1 : k = 1
      · subst k1; rw [q_up_same, q_up_same]
      · rw [q_up_k k1, q_up_k k1]; exact hM.2 k hk
theorem wf_stick (hW : p_wf M) : p_wf (t_stick M) := by
  obtain ⟨e, h4⟩ := p_sn_eq hW
  unfold t_stick
  split
  · exact hW
  · rename_i h
    have hl := hW.2.2.2.2.2.2
    refine wf_set0 hW (fun a ha => q_up_fa ha) ?_ ⟨p_sn M + 1, by omega, q_up_same⟩ ?_ ?_ ?_ ?_ ?_ ?_ ?_
    · simp (disch := omega) only [p_keep0, q_up_k, and_self]
    · have : p_sn (q_up M 135 1 (Int32.ofNat (p_sn M + 1))) = p_sn M + 1 := by
        show (q_up M 135 1 (Int32.ofNat (p_sn M + 1)) 135 1).toNatClampNeg = _
        rw [q_up_same, n_cl (by omega)]
      omega
    · have := wf_ww hW
      unfold p_ww at this ⊢
      rw [q_up_k (by decide), q_up_k (by decide)]
      exact this
    · rw [q_up_k (by decide)]; exact hl.1.2.1
    · rw [q_up_k (by decide)]; exact hl.1.2.2.1
    · rw [q_up_k (by decide)]; exact hl.2.1.1
    · rw [q_up_k (by decide)]; exact hl.2.1.2.2.1
    · rw [q_up_k (by decide)]; exact hl.2.1.2.2.2.1
end
