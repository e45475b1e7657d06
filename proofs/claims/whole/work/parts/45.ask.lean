/-! what every question needs, on both sides -/
theorem s_within {d c : Nat} {h : q_H} {Q : Option Value → q_H → Prop} {v lo hi : Int32} : q_wp (d + 1) c 7052 0 [.int v, .int lo, .int hi] [] h Q = Q (some (.int (if lo ≤ v ∧ v ≤ hi then 1 else 0))) h := by
  simp only [r7052_0, r7052_1, r7052_2, r7052_5, r7052_6, r7052_7, r7052_10, r7052_11, r7052_14, r7052_15, va_rf_some, va_rf_none, cat_int, cat_ref, cat_null, cat_jk, q_cs_nil, q_cs_int, q_cs_ref, q_cs_long, q_tl_some, q_tl_none, nz_0, nz_1, nzn_0, nzn_1, nz_b, true_and, and_true, Nat.reduceLeDiff, Nat.reduceAdd]
  by_cases h1 : lo ≤ v
  · by_cases h2 : v ≤ hi
    · simp [h1, h2, Int32.not_lt.2 h1, Int32.not_lt.2 h2, nz_1]
    · simp [h1, h2, Int32.not_lt.2 h1, Int32.not_le.1 h2, nz_0]
  · simp [h1, Int32.not_le.1 h1, nz_0]
theorem m_in {d c : Nat} {h : q_H} {Q : Option Value → q_H → Prop} {v lo hi : Int32} : q_wp (d + 1) c 8002 0 [.int v, .int lo, .int hi] [] h Q = Q (some (.int (if lo ≤ v ∧ v ≤ hi then 1 else 0))) h := by
  simp only [r8002_0, r8002_1, r8002_2, r8002_5, r8002_6, r8002_7, r8002_10, r8002_11, r8002_14, r8002_15, va_rf_some, va_rf_none, cat_int, cat_ref, cat_null, cat_jk, q_cs_nil, q_cs_int, q_cs_ref, q_cs_long, q_tl_some, q_tl_none, nz_0, nz_1, nzn_0, nzn_1, nz_b, true_and, and_true, Nat.reduceLeDiff, Nat.reduceAdd]
  by_cases h1 : lo ≤ v
  · by_cases h2 : v ≤ hi
    · simp [h1, h2, Int32.not_lt.2 h1, Int32.not_lt.2 h2, nz_1]
    · simp [h1, h2, Int32.not_lt.2 h1, Int32.not_le.1 h2, nz_0]
  · simp [h1, Int32.not_le.1 h1, nz_0]
/-- i is one of the first m -/
def p_is (i : Int32) (m : Nat) : Prop := ∃ k, k < m ∧ i = Int32.ofNat k
theorem p_is_iff {i : Int32} {m : Nat} (hm : m < 2147483648) : (Int32.ofNat 0 ≤ i ∧ i ≤ Int32.ofNat m - Int32.ofNat 1) = p_is i m := by
  refine propext ⟨fun ⟨h1, h2⟩ => ?_, fun ⟨k, h1, h2⟩ => ?_⟩
  · obtain ⟨k, hk, rfl⟩ := x_nat h1
    rw [n_pred hm, n_lt hk hm] at h2
    exact ⟨k, h2, rfl⟩
  · rw [n_pred hm, h2, n_le (by omega) (by omega), n_lt (by omega) hm]
    exact ⟨by omega, h1⟩
theorem p_is_no {i : Int32} {m : Nat} (hm : m < 2147483648) (h : ¬ p_is i m) : (Int32.ofNat 0 ≤ i ∧ i ≤ Int32.ofNat m - Int32.ofNat 1) = False := by rw [p_is_iff hm]; exact eq_false h
theorem p_is_yes {i : Int32} {m : Nat} (hm : m < 2147483648) (h : p_is i m) : (Int32.ofNat 0 ≤ i ∧ i ≤ Int32.ofNat m - Int32.ofNat 1) = True := by rw [p_is_iff hm]; exact eq_true h
theorem p_tn_eq {M : Nat → Nat → Int32} (h : p_wf M) : M 135 10 = Int32.ofNat (p_tn M) ∧ p_tn M ≤ 8 := by
  obtain ⟨⟨tn, htn, etn⟩, -⟩ := h.2.2.2.1
  unfold p_tn
  rw [etn, n_cl (by omega)]
  exact ⟨rfl, htn⟩
theorem p_sn_eq {M : Nat → Nat → Int32} (h : p_wf M) : M 135 1 = Int32.ofNat (p_sn M) ∧ p_sn M ≤ 4 := by
  obtain ⟨tn, htn, etn⟩ := h.1
  unfold p_sn
  rw [etn, n_cl (by omega)]
  exact ⟨rfl, htn⟩
theorem p_tx_eq {M : Nat → Nat → Int32} (h : p_wf M) : M 135 25 = Int32.ofNat (p_tx M) ∧ p_tx M ≤ 6 := by
  obtain ⟨tn, htn, etn⟩ := h.2.2.2.2.2.2.1.1
  unfold p_tx
  rw [etn, n_cl (by omega)]
  exact ⟨rfl, htn⟩
theorem p_pc_eq {M : Nat → Nat → Int32} {s : Nat} (h : p_wf M) (hs : s < 4) : M 137 s = Int32.ofNat (p_pc M s) ∧ p_pc M s ≤ 6 := by
  obtain ⟨⟨tn, htn, etn⟩, -⟩ := h.2.1 s hs
  unfold p_pc
  rw [etn, n_cl (by omega)]
  exact ⟨rfl, htn⟩
section
variable {d c L n : Nat} {Q : Option Value → q_H → Prop} {I M : Nat → Nat → Int32} {r : Nat → Nat → Option Nat} {dk : Nat → Nat × Nat}
theorem s_tossAt (hW : p_wf M) (hC : p_CR L r dk n I M) {k t : Nat} (hk : k < p_tn M) (ht : r 34 k = some t) (h32 : 32 ≤ t) :
    q_wp (d + 2) c 7055 0 [.ref 32, .int (Int32.ofNat k)] [] (p_h L I r dk n) Q = Q (some (.ref t)) (p_h L I r dk n) := by
  obtain ⟨e, h8⟩ := p_tn_eq hW
  have e10 := hC.1.2.1.trans e
  have hr : p_R r 34 k = some t := p_R_34.trans ht
  simp (disch := omega) only [r7055_0, r7055_1, r7055_2, r7055_3, r7055_6, r7055_7, r7055_8, r7055_11, r7055_14, r7055_15, r7055_18, r7055_19, r7055_20, r7055_23, r7055_24, r7055_24n, s_within, p_is_yes, n_pred, va_rf_some, va_rf_none, cat_int, cat_ref, cat_null, cat_jk, q_cs_nil, q_cs_int, q_cs_ref, q_cs_long, q_tl_some, q_tl_none, nz_0, nz_1, nzn_0, nzn_1, nz_b, true_and, and_true, Nat.reduceLeDiff, Nat.reduceAdd, l_0, l_1, l_2, l_3, l_4, l_5, l_6, l_7, l_8, l_9, l_10, l_11, l_12, l_13, l_14, l_15, l_16, l_17, l_18, l_19, l_20, l_24, l_32, l_40, l_41, l_42, l_43, l_45, l_48, l_57, l_59, l_60, l_61, l_63, l_64, l_80, l_96, l_97, l_99, l_100, l_122, l_160, l_200, l_320, l_640, l_999, l_1000, l_1200, l_4000, l_99999, l_100000, l_100001, l_100002, l_100006, l_100010, l_252645135, l_858993459, l_1431655765, n_cl, n_lt, n_le, n_eq, n_in, n_add, n_mul, n_sub, n_div, n_mod, n_addneg, n_negl, n_nege, Nat.add_sub_cancel, d_ltT, d_ltF, d_leT, d_leF, d_eqT, d_eqF, ↓reduceIte, Nat.reduceLeDiff, Nat.reduceAdd, Nat.reduceMul, Nat.reduceSub, Nat.reduceLT, Nat.zero_add, Nat.add_zero, not_false_eq_true, pK_32, pK_33, pK_34, pK_35, pK_36, pK_37, pK_38, pK_39, pK_40, pK_41, pK_42, pK_43, pK_44, pR_32_0, pR_32_1, pR_32_2, pR_32_3, pR_32_4, pR_32_5, pR_32_6, pR_32_7, pR_32_8, pR_33_0, pR_33_1, pR_33_2, pR_33_3, pR_36_0, pR_36_1, pR_36_2, pR_36_3, pR_37_0, pR_37_1, pR_37_3, pR_37_4, pR_42_0, pR_42_3, pK_124, pK_125, pK_126, pK_127, pK_128, pK_129, pK_130, pK_131, pK_132, pK_133, pK_134, pR_124_0, pR_126_0, pR_128_0, pR_130_0, pR_134_0, pR_134_1, e10, and_self, hr, h32]
theorem s_tossAt_no (hW : p_wf M) (hC : p_CR L r dk n I M) {i : Int32} (hi : ¬ p_is i (p_tn M)) :
    q_wp (d + 2) c 7055 0 [.ref 32, .int i] [] (p_h L I r dk n) Q = Q (some .null) (p_h L I r dk n) := by
  obtain ⟨e, h8⟩ := p_tn_eq hW
  have e10 := hC.1.2.1.trans e
  have hno := p_is_no (by omega) hi
  simp (disch := omega) only [r7055_0, r7055_1, r7055_2, r7055_3, r7055_6, r7055_7, r7055_8, r7055_11, r7055_14, r7055_15, r7055_18, r7055_19, r7055_20, r7055_23, r7055_24, r7055_24n, s_within, hno, va_rf_some, va_rf_none, cat_int, cat_ref, cat_null, cat_jk, q_cs_nil, q_cs_int, q_cs_ref, q_cs_long, q_tl_some, q_tl_none, nz_0, nz_1, nzn_0, nzn_1, nz_b, true_and, and_true, Nat.reduceLeDiff, Nat.reduceAdd, l_0, l_1, l_2, l_3, l_4, l_5, l_6, l_7, l_8, l_9, l_10, l_11, l_12, l_13, l_14, l_15, l_16, l_17, l_18, l_19, l_20, l_24, l_32, l_40, l_41, l_42, l_43, l_45, l_48, l_57, l_59, l_60, l_61, l_63, l_64, l_80, l_96, l_97, l_99, l_100, l_122, l_160, l_200, l_320, l_640, l_999, l_1000, l_1200, l_4000, l_99999, l_100000, l_100001, l_100002, l_100006, l_100010, l_252645135, l_858993459, l_1431655765, pK_32, pK_33, pK_34, pK_35, pK_36, pK_37, pK_38, pK_39, pK_40, pK_41, pK_42, pK_43, pK_44, pR_32_0, pR_32_1, pR_32_2, pR_32_3, pR_32_4, pR_32_5, pR_32_6, pR_32_7, pR_32_8, pR_33_0, pR_33_1, pR_33_2, pR_33_3, pR_36_0, pR_36_1, pR_36_2, pR_36_3, pR_37_0, pR_37_1, pR_37_3, pR_37_4, pR_42_0, pR_42_3, pK_124, pK_125, pK_126, pK_127, pK_128, pK_129, pK_130, pK_131, pK_132, pK_133, pK_134, pR_124_0, pR_126_0, pR_128_0, pR_130_0, pR_134_0, pR_134_1, e10, ↓reduceIte]
theorem m_isThrow (hW : p_wf M) (hM : p_MR I M) {i : Int32} [Decidable (p_is i (p_tn M))] :
    q_wp (d + 2) c 8005 0 [.ref 135, .int i] [] (p_h L I r dk n) Q = Q (some (.int (if p_is i (p_tn M) then 1 else 0))) (p_h L I r dk n) := by
  obtain ⟨e, h8⟩ := p_tn_eq hW
  have e10 := (hM.2 10 (by decide)).trans e
  simp only [r8005_0, r8005_1, r8005_2, r8005_3, r8005_6, r8005_7, r8005_8, r8005_11, m_in, va_rf_some, va_rf_none, cat_int, cat_ref, cat_null, cat_jk, q_cs_nil, q_cs_int, q_cs_ref, q_cs_long, q_tl_some, q_tl_none, nz_0, nz_1, nzn_0, nzn_1, nz_b, true_and, and_true, Nat.reduceLeDiff, Nat.reduceAdd, l_0, l_1, l_2, l_3, l_4, l_5, l_6, l_7, l_8, l_9, l_10, l_11, l_12, l_13, l_14, l_15, l_16, l_17, l_18, l_19, l_20, l_24, l_32, l_40, l_41, l_42, l_43, l_45, l_48, l_57, l_59, l_60, l_61, l_63, l_64, l_80, l_96, l_97, l_99, l_100, l_122, l_160, l_200, l_320, l_640, l_999, l_1000, l_1200, l_4000, l_99999, l_100000, l_100001, l_100002, l_100006, l_100010, l_252645135, l_858993459, l_1431655765, pK_135, pK_136, pK_137, pK_138, pK_139, pK_140, pK_141, pK_142, pK_143, pK_144, pK_145, pK_146, pK_147, pK_148, pK_149, pK_150, pK_151, pK_152, pK_153, pK_154, pK_155, pK_156, pK_157, pK_158, pK_159, pK_160, pK_161, pK_162, pK_163, pK_164, pK_165, pK_166, pK_167, pK_168, pK_169, pK_170, pK_171, pK_172, pK_173, pK_174, pK_175, pK_176, pK_177, pK_178, pR_135_0, pR_135_2, pR_135_3, pR_135_4, pR_135_5, pR_135_6, pR_135_7, pR_135_11, pR_135_12, pR_135_13, pR_135_14, pR_135_15, pR_135_16, pR_135_17, pR_135_19, pR_135_20, pR_135_21, pR_135_23, pR_135_24, pR_135_33, pR_135_34, pR_135_35, pR_135_36, pR_135_37, pR_135_38, pR_135_39, pR_135_40, pR_135_41, pR_135_46, pR_135_47, pR_135_51, pR_135_52, pR_135_53, pR_135_54, pR_135_55, pR_135_56, pR_135_57, pR_135_58, pR_135_59, pR_135_61, pR_135_62, pR_135_63, pR_135_64, e10, nzn_b]
  by_cases h : p_is i (p_tn M)
  · simp only [p_is_yes (by omega) h, h, ↓reduceIte]
  · simp only [p_is_no (by omega) h, h, ↓reduceIte]
theorem m_flies (hW : p_wf M) (hM : p_MR I M) {k : Nat} (hk : k < p_tn M)
    (hQ : ∀ I', p_fl I (p_row M k (M 145 k) (M 146 k) false) (p_last (p_row M k (M 145 k) (M 146 k) false)) I' → Q none (p_h L I' r dk n)) :
    q_wp (d + 6) c 8039 0 [.ref 135, .int (Int32.ofNat k)] [] (p_h L I r dk n) Q := by
  obtain ⟨e, h8⟩ := p_tn_eq hW
  have e145 := hM.1 145 (by decide) (by decide)
  have e146 := hM.1 146 (by decide) (by decide)
  simp (disch := omega) only [r8039_0, r8039_1, r8039_2, r8039_3, r8039_6, r8039_7, r8039_8, r8039_9, r8039_12, r8039_13, r8039_14, r8039_15, va_rf_some, va_rf_none, cat_int, cat_ref, cat_null, cat_jk, q_cs_nil, q_cs_int, q_cs_ref, q_cs_long, q_tl_some, q_tl_none, nz_0, nz_1, nzn_0, nzn_1, nz_b, true_and, and_true, Nat.reduceLeDiff, Nat.reduceAdd, l_0, l_1, l_2, l_3, l_4, l_5, l_6, l_7, l_8, l_9, l_10, l_11, l_12, l_13, l_14, l_15, l_16, l_17, l_18, l_19, l_20, l_24, l_32, l_40, l_41, l_42, l_43, l_45, l_48, l_57, l_59, l_60, l_61, l_63, l_64, l_80, l_96, l_97, l_99, l_100, l_122, l_160, l_200, l_320, l_640, l_999, l_1000, l_1200, l_4000, l_99999, l_100000, l_100001, l_100002, l_100006, l_100010, l_252645135, l_858993459, l_1431655765, n_cl, n_lt, n_le, n_eq, n_in, n_add, n_mul, n_sub, n_div, n_mod, n_addneg, n_negl, n_nege, Nat.add_sub_cancel, d_ltT, d_ltF, d_leT, d_leF, d_eqT, d_eqF, ↓reduceIte, Nat.reduceLeDiff, Nat.reduceAdd, Nat.reduceMul, Nat.reduceSub, Nat.reduceLT, Nat.zero_add, Nat.add_zero, not_false_eq_true, pK_135, pK_136, pK_137, pK_138, pK_139, pK_140, pK_141, pK_142, pK_143, pK_144, pK_145, pK_146, pK_147, pK_148, pK_149, pK_150, pK_151, pK_152, pK_153, pK_154, pK_155, pK_156, pK_157, pK_158, pK_159, pK_160, pK_161, pK_162, pK_163, pK_164, pK_165, pK_166, pK_167, pK_168, pK_169, pK_170, pK_171, pK_172, pK_173, pK_174, pK_175, pK_176, pK_177, pK_178, pR_135_0, pR_135_2, pR_135_3, pR_135_4, pR_135_5, pR_135_6, pR_135_7, pR_135_11, pR_135_12, pR_135_13, pR_135_14, pR_135_15, pR_135_16, pR_135_17, pR_135_19, pR_135_20, pR_135_21, pR_135_23, pR_135_24, pR_135_33, pR_135_34, pR_135_35, pR_135_36, pR_135_37, pR_135_38, pR_135_39, pR_135_40, pR_135_41, pR_135_46, pR_135_47, pR_135_51, pR_135_52, pR_135_53, pR_135_54, pR_135_55, pR_135_56, pR_135_57, pR_135_58, pR_135_59, pR_135_61, pR_135_62, pR_135_63, pR_135_64, e145, e146]
  refine m_goes (mir := false) hM (wf_tw hW hk) (wf_rw hW) (wf_way hW hk).1 (wf_way hW hk).2 fun I' hI' => ?_
  simp only [q_tl_none, r8039_18]
  exact hQ I' hI'
end
