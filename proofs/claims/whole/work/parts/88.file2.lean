/-! file -/
abbrev p_fok (row : Nat) (v : Int32) : Prop := (if row = 2 then Int32.ofNat 1 else Int32.ofNat 0) ≤ v ∧ v ≤ Int32.ofNat 20
def t_file (M : Nat → Nat → Int32) (s p w v : Int32) : Nat → Nat → Int32 := p_sels M s M fun k => if Int32.ofNat 0 ≤ p ∧ p < Int32.ofNat (p_pc M k) then (if Int32.ofNat 0 ≤ w ∧ w ≤ Int32.ofNat 2 then (if p_fok w.toNatClampNeg v then p_fil M k w.toNatClampNeg p.toNatClampNeg v else M) else M) else M
def a_file (M : Nat → Nat → Int32) (s p w v : Int32) : Int32 := p_sels M s (-5) fun k => if Int32.ofNat 0 ≤ p ∧ p < Int32.ofNat (p_pc M k) then (if Int32.ofNat 0 ≤ w ∧ w ≤ Int32.ofNat 2 then (if p_fok w.toNatClampNeg v then M (140 + w.toNatClampNeg) (6 * k + p.toNatClampNeg) else -7) else -7) else -5
section
variable {d c L n : Nat} {Q : Option Value → q_H → Prop} {I M : Nat → Nat → Int32} {r : Nat → Nat → Option Nat} {dk : Nat → Nat × Nat}
theorem wf_file (hW : p_wf M) {s p w v : Int32} : p_wf (t_file M s p w v) := by
  unfold t_file
  by_cases hi : p_is s (p_sn M)
  · obtain ⟨k, hk, rfl⟩ := hi
    rw [p_sels_ok hW hk]
    split
    · split
      · rename_i hw
        split
        · rename_i hv
          obtain ⟨w', hw', rfl⟩ := x_rng (by omega) hw
          rw [n_cl (by omega)] at hv ⊢
          have hv0 : Int32.ofNat 0 ≤ v := by
            have h1 := hv.1
            split at h1
            · refine Int32.le_trans ?_ h1; decide
            · exact h1
          obtain ⟨v', hv', rfl⟩ := x_rng (by omega) ⟨hv0, hv.2⟩
          exact wf_fil hW hv' (by omega)
        · exact hW
      · exact hW
    · exact hW
  · rw [p_sels_no hW hi]; exact hW
theorem c_file (hW : p_wf M) (hC : p_CR L r dk n I M) {s p w v : Int32} (hQ : ∀ I', p_cc I I' → p_CR L r dk n I' (t_file M s p w v) → Q (some (.int (a_file M s p w v))) (p_h L I' r dk n)) :
    q_wp (d + 9) c 7003 0 [.ref 32, .int s, .int p, .int w, .int v, q_jk, q_jk] [] (p_h L I r dk n) Q := by
  unfold t_file a_file at hQ
  by_cases hi : p_is s (p_sn M)
  · obtain ⟨t0, hk, rfl⟩ := hi
    obtain ⟨e, h4⟩ := p_sn_eq hW
    have hs4 : t0 < 4 := by omega
    obtain ⟨e2, h6⟩ := p_pc_eq hW hs4
    have hsk : p_ska (80 + 11 * t0) := by unfold p_ska; omega
    have kst := (k_st (L := L) (dk := dk) hsk).1
    have hst32 : 32 ≤ 80 + 11 * t0 := by omega
    have hst := (hC.2.1 _ hs4).1
    have e3 : I (80 + 11 * t0) 3 = Int32.ofNat (p_pc M t0) := hst.1.trans e2
    rw [p_sels_ok hW hk, p_sels_ok hW hk] at hQ
    by_cases hp : Int32.ofNat 0 ≤ p ∧ p < Int32.ofNat (p_pc M t0)
    · simp only [if_pos hp] at hQ
      obtain ⟨p', hp', rfl⟩ := x_nat hp.1
      have hpp : p' < p_pc M t0 := by have := hp.2; rw [n_lt hp' (by omega)] at this; exact this
      have n0 : (Int32.ofNat p' < Int32.ofNat 0) = False := by rw [n_lt (by omega) (by omega)]; exact eq_false (by omega)
      rw [n_cl hp'] at hQ
      by_cases hw : Int32.ofNat 0 ≤ w ∧ w ≤ Int32.ofNat 2
      · simp only [if_pos hw] at hQ
        obtain ⟨k, hk2, rfl⟩ := x_rng (by omega) hw
        rw [n_cl (show k < 2147483648 by omega)] at hQ
        obtain ⟨w1, w2⟩ := k_row (L := L) (dk := dk) (r := r) hsk (show k < 5 by omega)
        obtain ⟨j1, j2, j3, j4, j5⟩ := k_st (L := L) (dk := dk) hsk
        have sr := (k_sr (r := r) hsk).1
        have hrow32 : 32 ≤ 80 + 11 * t0 + 2 + k := by omega
        have hok : (Int32.ofNat 0 ≤ Int32.ofNat k ∧ Int32.ofNat k ≤ Int32.ofNat 2) = True := eq_true hw
        simp (disch := omega) only [r7003_0, r7003_1, r7003_2, r7003_5, r7003_5n, r7003_7, r7003_7n, r7003_9, r7003_9n, r7003_12, r7003_12n, r7003_14, r7003_15, r7003_18, r7003_21, r7003_23, r7003_24, r7003_25, r7003_26, r7003_27, r7003_30, r7003_33, r7003_34, r7003_36, r5001_0, r5001_1, r5001_4, r5001_5, r5001_6, r5001_9, r5001_12, r5001_13, r5001_16, r5001_17, s_stickAt hW hC hk, s_within, s_filedWell (show k < 3 by omega), n0, hok, kst, hst32, e3, b_eq0, b_eq1, b_0eq, ite_not, not_true_eq_false, not_false_eq_true, ↓reduceIte, va_rf_some, va_rf_none, cat_int, cat_ref, cat_null, cat_jk, q_cs_nil, q_cs_int, q_cs_ref, q_cs_long, q_tl_some, q_tl_none, nz_0, nz_1, nzn_0, nzn_1, nz_b, true_and, and_true, Nat.reduceLeDiff, Nat.reduceAdd, l_0, l_1, l_2, l_3, l_4, l_5, l_6, l_7, l_8, l_9, l_10, l_11, l_12, l_13, l_14, l_15, l_16, l_17, l_18, l_19, l_20, l_24, l_32, l_40, l_41, l_42, l_43, l_45, l_48, l_57, l_59, l_60, l_61, l_63, l_64, l_80, l_96, l_97, l_99, l_100, l_122, l_160, l_200, l_320, l_640, l_999, l_1000, l_1200, l_4000, l_99999, l_100000, l_100001, l_100002, l_100006, l_100010, l_252645135, l_858993459, l_1431655765, n_cl, n_lt, n_le, n_eq, n_in, n_add, n_mul, n_sub, n_div, n_mod, n_addneg, n_negl, n_nege, Nat.add_sub_cancel, d_ltT, d_ltF, d_leT, d_leF, d_eqT, d_eqF, ↓reduceIte, Nat.reduceLeDiff, Nat.reduceAdd, Nat.reduceMul, Nat.reduceSub, Nat.reduceLT, Nat.zero_add, Nat.add_zero, not_false_eq_true, pK_32, pK_33, pK_34, pK_35, pK_36, pK_37, pK_38, pK_39, pK_40, pK_41, pK_42, pK_43, pK_44, pR_32_0, pR_32_1, pR_32_2, pR_32_3, pR_32_4, pR_32_5, pR_32_6, pR_32_7, pR_32_8, pR_33_0, pR_33_1, pR_33_2, pR_33_3, pR_36_0, pR_36_1, pR_36_2, pR_36_3, pR_37_0, pR_37_1, pR_37_3, pR_37_4, pR_42_0, pR_42_3, pK_124, pK_125, pK_126, pK_127, pK_128, pK_129, pK_130, pK_131, pK_132, pK_133, pK_134, pR_124_0, pR_126_0, pR_128_0, pR_130_0, pR_134_0, pR_134_1, and_self]
        by_cases hv : p_fok k v
        · simp only [if_pos hv] at hQ
          simp (disch := omega) only [if_pos hv, r7003_39, r7003_42, r7003_44, r7003_45, r7003_45n, r7003_47, r7003_50, r7003_51, r7003_52, r7003_53, r7003_54, r7003_56, r7003_56n, r7003_58, r7003_61, r7003_62, r7003_63, r7003_64, r7003_66, r7003_67, r7003_69, w1, w2, j2, j5, sr, kst, hst32, hrow32, b_eq0, b_eq1, b_0eq, ite_not, not_true_eq_false, not_false_eq_true, ↓reduceIte, va_rf_some, va_rf_none, cat_int, cat_ref, cat_null, cat_jk, q_cs_nil, q_cs_int, q_cs_ref, q_cs_long, q_tl_some, q_tl_none, nz_0, nz_1, nzn_0, nzn_1, nz_b, true_and, and_true, Nat.reduceLeDiff, Nat.reduceAdd, l_0, l_1, l_2, l_3, l_4, l_5, l_6, l_7, l_8, l_9, l_10, l_11, l_12, l_13, l_14, l_15, l_16, l_17, l_18, l_19, l_20, l_24, l_32, l_40, l_41, l_42, l_43, l_45, l_48, l_57, l_59, l_60, l_61, l_63, l_64, l_80, l_96, l_97, l_99, l_100, l_122, l_160, l_200, l_320, l_640, l_999, l_1000, l_1200, l_4000, l_99999, l_100000, l_100001, l_100002, l_100006, l_100010, l_252645135, l_858993459, l_1431655765, n_cl, n_lt, n_le, n_eq, n_in, n_add, n_mul, n_sub, n_div, n_mod, n_addneg, n_negl, n_nege, Nat.add_sub_cancel, d_ltT, d_ltF, d_leT, d_leF, d_eqT, d_eqF, ↓reduceIte, Nat.reduceLeDiff, Nat.reduceAdd, Nat.reduceMul, Nat.reduceSub, Nat.reduceLT, Nat.zero_add, Nat.add_zero, not_false_eq_true, pK_32, pK_33, pK_34, pK_35, pK_36, pK_37, pK_38, pK_39, pK_40, pK_41, pK_42, pK_43, pK_44, pR_32_0, pR_32_1, pR_32_2, pR_32_3, pR_32_4, pR_32_5, pR_32_6, pR_32_7, pR_32_8, pR_33_0, pR_33_1, pR_33_2, pR_33_3, pR_36_0, pR_36_1, pR_36_2, pR_36_3, pR_37_0, pR_37_1, pR_37_3, pR_37_4, pR_42_0, pR_42_3, pK_124, pK_125, pK_126, pK_127, pK_128, pK_129, pK_130, pK_131, pK_132, pK_133, pK_134, pR_124_0, pR_126_0, pR_128_0, pR_130_0, pR_134_0, pR_134_1, and_self]
          obtain ⟨x1, x2, x3, -⟩ := hst.2 p' hpp
          have ev : I (80 + 11 * t0 + 2 + k) p' = M (140 + k) (6 * t0 + p') := by
            have : k = 0 ∨ k = 1 ∨ k = 2 := by omega
            rcases this with rfl | rfl | rfl
            · exact x1
            · exact x2
            · exact x3
          rw [ev]
          exact hQ _ (fun a ha => q_up_fa (by omega)) (CR_fil hC hs4 (by omega) (by omega) fun z hz => (p_pc_eq hW hz).2)
        · simp only [if_neg hv] at hQ
          simp (disch := omega) only [if_neg hv, r7003_39, r7003_42, r7003_44, b_eq0, b_eq1, b_0eq, ite_not, not_true_eq_false, not_false_eq_true, ↓reduceIte, va_rf_some, va_rf_none, cat_int, cat_ref, cat_null, cat_jk, q_cs_nil, q_cs_int, q_cs_ref, q_cs_long, q_tl_some, q_tl_none, nz_0, nz_1, nzn_0, nzn_1, nz_b, true_and, and_true, Nat.reduceLeDiff, Nat.reduceAdd, l_0, l_1, l_2, l_3, l_4, l_5, l_6, l_7, l_8, l_9, l_10, l_11, l_12, l_13, l_14, l_15, l_16, l_17, l_18, l_19, l_20, l_24, l_32, l_40, l_41, l_42, l_43, l_45, l_48, l_57, l_59, l_60, l_61, l_63, l_64, l_80, l_96, l_97, l_99, l_100, l_122, l_160, l_200, l_320, l_640, l_999, l_1000, l_1200, l_4000, l_99999, l_100000, l_100001, l_100002, l_100006, l_100010, l_252645135, l_858993459, l_1431655765, n_cl, n_lt, n_le, n_eq, n_in, n_add, n_mul, n_sub, n_div, n_mod, n_addneg, n_negl, n_nege, Nat.add_sub_cancel, d_ltT, d_ltF, d_leT, d_leF, d_eqT, d_eqF, ↓reduceIte, Nat.reduceLeDiff, Nat.reduceAdd, Nat.reduceMul, Nat.reduceSub, Nat.reduceLT, Nat.zero_add, Nat.add_zero, not_false_eq_true, pK_32, pK_33, pK_34, pK_35, pK_36, pK_37, pK_38, pK_39, pK_40, pK_41, pK_42, pK_43, pK_44, pR_32_0, pR_32_1, pR_32_2, pR_32_3, pR_32_4, pR_32_5, pR_32_6, pR_32_7, pR_32_8, pR_33_0, pR_33_1, pR_33_2, pR_33_3, pR_36_0, pR_36_1, pR_36_2, pR_36_3, pR_37_0, pR_37_1, pR_37_3, pR_37_4, pR_42_0, pR_42_3, pK_124, pK_125, pK_126, pK_127, pK_128, pK_129, pK_130, pK_131, pK_132, pK_133, pK_134, pR_124_0, pR_126_0, pR_128_0, pR_130_0, pR_134_0, pR_134_1, and_self]
          exact hQ I (fun _ _ => rfl) hC
      · simp only [if_neg hw] at hQ
        simp (disch := omega) only [r7003_0, r7003_1, r7003_2, r7003_5, r7003_5n, r7003_7, r7003_7n, r7003_9, r7003_9n, r7003_12, r7003_12n, r7003_14, r7003_15, r7003_18, r7003_21, r7003_23, r7003_24, r7003_25, r7003_26, r7003_27, r7003_30, r7003_42, r7003_44, r5001_0, r5001_1, r5001_4, r5001_5, r5001_6, r5001_9, r5001_12, r5001_13, r5001_16, r5001_17, s_stickAt hW hC hk, s_within, n0, hw, kst, hst32, e3, b_eq0, b_eq1, b_0eq, ite_not, not_true_eq_false, not_false_eq_true, ↓reduceIte, va_rf_some, va_rf_none, cat_int, cat_ref, cat_null, cat_jk, q_cs_nil, q_cs_int, q_cs_ref, q_cs_long, q_tl_some, q_tl_none, nz_0, nz_1, nzn_0, nzn_1, nz_b, true_and, and_true, Nat.reduceLeDiff, Nat.reduceAdd, l_0, l_1, l_2, l_3, l_4, l_5, l_6, l_7, l_8, l_9, l_10, l_11, l_12, l_13, l_14, l_15, l_16, l_17, l_18, l_19, l_20, l_24, l_32, l_40, l_41, l_42, l_43, l_45, l_48, l_57, l_59, l_60, l_61, l_63, l_64, l_80, l_96, l_97, l_99, l_100, l_122, l_160, l_200, l_320, l_640, l_999, l_1000, l_1200, l_4000, l_99999, l_100000, l_100001, l_100002, l_100006, l_100010, l_252645135, l_858993459, l_1431655765, n_cl, n_lt, n_le, n_eq, n_in, n_add, n_mul, n_sub, n_div, n_mod, n_addneg, n_negl, n_nege, Nat.add_sub_cancel, d_ltT, d_ltF, d_leT, d_leF, d_eqT, d_eqF, ↓reduceIte, Nat.reduceLeDiff, Nat.reduceAdd, Nat.reduceMul, Nat.reduceSub, Nat.reduceLT, Nat.zero_add, Nat.add_zero, not_false_eq_true, pK_32, pK_33, pK_34, pK_35, pK_36, pK_37, pK_38, pK_39, pK_40, pK_41, pK_42, pK_43, pK_44, pR_32_0, pR_32_1, pR_32_2, pR_32_3, pR_32_4, pR_32_5, pR_32_6, pR_32_7, pR_32_8, pR_33_0, pR_33_1, pR_33_2, pR_33_3, pR_36_0, pR_36_1, pR_36_2, pR_36_3, pR_37_0, pR_37_1, pR_37_3, pR_37_4, pR_42_0, pR_42_3, pK_124, pK_125, pK_126, pK_127, pK_128, pK_129, pK_130, pK_131, pK_132, pK_133, pK_134, pR_124_0, pR_126_0, pR_128_0, pR_130_0, pR_134_0, pR_134_1]
        exact hQ I (fun _ _ => rfl) hC
    · simp only [if_neg hp] at hQ
      have hp2 : Int32.ofNat 0 ≤ p → ¬ p < Int32.ofNat (p_pc M t0) := fun a b => hp ⟨a, b⟩
      by_cases h0 : p < Int32.ofNat 0
      · have h0' : ¬ Int32.ofNat 0 ≤ p := Int32.not_le.2 h0
        simp (disch := omega) only [r7003_0, r7003_1, r7003_2, r7003_5, r7003_5n, r7003_7, r7003_7n, r7003_9, r7003_9n, r7003_12, r7003_12n, r7003_14, r7003_15, r7003_18, r7003_21, r7003_23, r5001_0, r5001_1, r5001_4, r5001_5, r5001_6, r5001_9, r5001_12, r5001_13, r5001_16, r5001_17, s_stickAt hW hC hk, h0, h0', kst, hst32, e3, b_eq0, b_eq1, b_0eq, ite_not, not_true_eq_false, not_false_eq_true, ↓reduceIte, va_rf_some, va_rf_none, cat_int, cat_ref, cat_null, cat_jk, q_cs_nil, q_cs_int, q_cs_ref, q_cs_long, q_tl_some, q_tl_none, nz_0, nz_1, nzn_0, nzn_1, nz_b, true_and, and_true, Nat.reduceLeDiff, Nat.reduceAdd, l_0, l_1, l_2, l_3, l_4, l_5, l_6, l_7, l_8, l_9, l_10, l_11, l_12, l_13, l_14, l_15, l_16, l_17, l_18, l_19, l_20, l_24, l_32, l_40, l_41, l_42, l_43, l_45, l_48, l_57, l_59, l_60, l_61, l_63, l_64, l_80, l_96, l_97, l_99, l_100, l_122, l_160, l_200, l_320, l_640, l_999, l_1000, l_1200, l_4000, l_99999, l_100000, l_100001, l_100002, l_100006, l_100010, l_252645135, l_858993459, l_1431655765, n_cl, n_lt, n_le, n_eq, n_in, n_add, n_mul, n_sub, n_div, n_mod, n_addneg, n_negl, n_nege, Nat.add_sub_cancel, d_ltT, d_ltF, d_leT, d_leF, d_eqT, d_eqF, ↓reduceIte, Nat.reduceLeDiff, Nat.reduceAdd, Nat.reduceMul, Nat.reduceSub, Nat.reduceLT, Nat.zero_add, Nat.add_zero, not_false_eq_true, pK_32, pK_33, pK_34, pK_35, pK_36, pK_37, pK_38, pK_39, pK_40, pK_41, pK_42, pK_43, pK_44, pR_32_0, pR_32_1, pR_32_2, pR_32_3, pR_32_4, pR_32_5, pR_32_6, pR_32_7, pR_32_8, pR_33_0, pR_33_1, pR_33_2, pR_33_3, pR_36_0, pR_36_1, pR_36_2, pR_36_3, pR_37_0, pR_37_1, pR_37_3, pR_37_4, pR_42_0, pR_42_3, pK_124, pK_125, pK_126, pK_127, pK_128, pK_129, pK_130, pK_131, pK_132, pK_133, pK_134, pR_124_0, pR_126_0, pR_128_0, pR_130_0, pR_134_0, pR_134_1]
        exact hQ I (fun _ _ => rfl) hC
      · have h0' : Int32.ofNat 0 ≤ p := Int32.not_lt.1 h0
        have h1 : Int32.ofNat (p_pc M t0) ≤ p := Int32.not_lt.1 (hp2 h0')
        have h1' : ¬ p < Int32.ofNat (p_pc M t0) := hp2 h0'
        simp (disch := omega) only [r7003_0, r7003_1, r7003_2, r7003_5, r7003_5n, r7003_7, r7003_7n, r7003_9, r7003_9n, r7003_12, r7003_12n, r7003_14, r7003_15, r7003_18, r7003_21, r7003_23, r5001_0, r5001_1, r5001_4, r5001_5, r5001_6, r5001_9, r5001_12, r5001_13, r5001_16, r5001_17, s_stickAt hW hC hk, h0, h0', h1, h1', kst, hst32, e3, b_eq0, b_eq1, b_0eq, ite_not, not_true_eq_false, not_false_eq_true, ↓reduceIte, va_rf_some, va_rf_none, cat_int, cat_ref, cat_null, cat_jk, q_cs_nil, q_cs_int, q_cs_ref, q_cs_long, q_tl_some, q_tl_none, nz_0, nz_1, nzn_0, nzn_1, nz_b, true_and, and_true, Nat.reduceLeDiff, Nat.reduceAdd, l_0, l_1, l_2, l_3, l_4, l_5, l_6, l_7, l_8, l_9, l_10, l_11, l_12, l_13, l_14, l_15, l_16, l_17, l_18, l_19, l_20, l_24, l_32, l_40, l_41, l_42, l_43, l_45, l_48, l_57, l_59, l_60, l_61, l_63, l_64, l_80, l_96, l_97, l_99, l_100, l_122, l_160, l_200, l_320, l_640, l_999, l_1000, l_1200, l_4000, l_99999, l_100000, l_100001, l_100002, l_100006, l_100010, l_252645135, l_858993459, l_1431655765, n_cl, n_lt, n_le, n_eq, n_in, n_add, n_mul, n_sub, n_div, n_mod, n_addneg, n_negl, n_nege, Nat.add_sub_cancel, d_ltT, d_ltF, d_leT, d_leF, d_eqT, d_eqF, ↓reduceIte, Nat.reduceLeDiff, Nat.reduceAdd, Nat.reduceMul, Nat.reduceSub, Nat.reduceLT, Nat.zero_add, Nat.add_zero, not_false_eq_true, pK_32, pK_33, pK_34, pK_35, pK_36, pK_37, pK_38, pK_39, pK_40, pK_41, pK_42, pK_43, pK_44, pR_32_0, pR_32_1, pR_32_2, pR_32_3, pR_32_4, pR_32_5, pR_32_6, pR_32_7, pR_32_8, pR_33_0, pR_33_1, pR_33_2, pR_33_3, pR_36_0, pR_36_1, pR_36_2, pR_36_3, pR_37_0, pR_37_1, pR_37_3, pR_37_4, pR_42_0, pR_42_3, pK_124, pK_125, pK_126, pK_127, pK_128, pK_129, pK_130, pK_131, pK_132, pK_133, pK_134, pR_124_0, pR_126_0, pR_128_0, pR_130_0, pR_134_0, pR_134_1]
        exact hQ I (fun _ _ => rfl) hC
  · simp only [p_sels_no hW hi] at hQ
    simp (disch := omega) only [r7003_0, r7003_1, r7003_2, r7003_5, r7003_5n, r7003_7, r7003_7n, r7003_9, r7003_9n, r7003_12, r7003_12n, r7003_14, r7003_15, r7003_18, r7003_21, r7003_23, s_stickAt_no hW hC hi, b_eq0, b_eq1, b_0eq, ite_not, not_true_eq_false, not_false_eq_true, ↓reduceIte, va_rf_some, va_rf_none, cat_int, cat_ref, cat_null, cat_jk, q_cs_nil, q_cs_int, q_cs_ref, q_cs_long, q_tl_some, q_tl_none, nz_0, nz_1, nzn_0, nzn_1, nz_b, true_and, and_true, Nat.reduceLeDiff, Nat.reduceAdd, l_0, l_1, l_2, l_3, l_4, l_5, l_6, l_7, l_8, l_9, l_10, l_11, l_12, l_13, l_14, l_15, l_16, l_17, l_18, l_19, l_20, l_24, l_32, l_40, l_41, l_42, l_43, l_45, l_48, l_57, l_59, l_60, l_61, l_63, l_64, l_80, l_96, l_97, l_99, l_100, l_122, l_160, l_200, l_320, l_640, l_999, l_1000, l_1200, l_4000, l_99999, l_100000, l_100001, l_100002, l_100006, l_100010, l_252645135, l_858993459, l_1431655765, n_cl, n_lt, n_le, n_eq, n_in, n_add, n_mul, n_sub, n_div, n_mod, n_addneg, n_negl, n_nege, Nat.add_sub_cancel, d_ltT, d_ltF, d_leT, d_leF, d_eqT, d_eqF, ↓reduceIte, Nat.reduceLeDiff, Nat.reduceAdd, Nat.reduceMul, Nat.reduceSub, Nat.reduceLT, Nat.zero_add, Nat.add_zero, not_false_eq_true, pK_32, pK_33, pK_34, pK_35, pK_36, pK_37, pK_38, pK_39, pK_40, pK_41, pK_42, pK_43, pK_44, pR_32_0, pR_32_1, pR_32_2, pR_32_3, pR_32_4, pR_32_5, pR_32_6, pR_32_7, pR_32_8, pR_33_0, pR_33_1, pR_33_2, pR_33_3, pR_36_0, pR_36_1, pR_36_2, pR_36_3, pR_37_0, pR_37_1, pR_37_3, pR_37_4, pR_42_0, pR_42_3, pK_124, pK_125, pK_126, pK_127, pK_128, pK_129, pK_130, pK_131, pK_132, pK_133, pK_134, pR_124_0, pR_126_0, pR_128_0, pR_130_0, pR_134_0, pR_134_1]
    exact hQ I (fun _ _ => rfl) hC
end
