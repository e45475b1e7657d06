/-! mend -/
def p_men (M : Nat → Nat → Int32) (t : Nat) (x : Int32) : Nat → Nat → Int32 := if p_lout M t x 3 1 = -Int32.ofNat 1 then M else
  p_fil M (p_si M t) ((p_lout M t x 3 1).toNatClampNeg / 100 % 10) ((p_lout M t x 3 1).toNatClampNeg / 1000) (Int32.ofNat ((p_lout M t x 3 1).toNatClampNeg % 100))
def t_mend (M : Nat → Nat → Int32) (i x : Int32) : Nat → Nat → Int32 := p_sel M i M fun t => if Int32.ofNat 0 ≤ x ∧ x ≤ Int32.ofNat 99 then p_men M t x else M
theorem lout_ok {M : Nat → Nat → Int32} {k : Nat} {x : Int32} (h6 : p_pc M (p_si M k) ≤ 6) : ∀ m y, p_lout M k x m y = -Int32.ofNat 1 ∨ ∃ R, p_lout M k x m y = Int32.ofNat R ∧ R / 1000 < p_pc M (p_si M k) ∧ R / 100 % 10 < 2 ∧ R % 100 ≤ 20 ∧ R < 6000
  | 0, _ => .inl rfl
  | m + 1, y => by
    have hl : ∀ m' j, j + m' = 4 * p_pc M (p_si M k) → ∀ j', p_lin M k x y m' j = some j' → j' < 4 * p_pc M (p_si M k) ∧ p_lok M k x y j' := by
      intro m'
      induction m' with
      | zero => intro j _ j' h; exact absurd h (by simp [p_lin])
      | succ m' ih =>
        intro j hj j' h
        rw [lin_succ] at h
        split at h
        · rename_i hk
          obtain rfl := Option.some.inj h
          exact ⟨by omega, hk⟩
        · exact ih (j + 1) (by omega) j' h
    unfold p_lout
    cases hlin : p_lin M k x y (4 * p_pc M (p_si M k)) 0 with
    | none => exact lout_ok h6 m (y + 1)
    | some j =>
      obtain ⟨h1, ⟨h2, h3⟩, -⟩ := hl _ 0 (by omega) j hlin
      obtain ⟨v, hv, ev⟩ := x_rng (m := 20) (by omega) ⟨h2, h3⟩
      refine .inr ⟨1000 * (j / 4) + 100 * (j / 2 % 2) + v, ?_, ?_, ?_, ?_, ?_⟩
      · show p_lrs M (p_si M k) y j = _
        unfold p_lrs
        rw [ev, n_add]
      · omega
      · omega
      · omega
      · omega
section
variable {d c L n : Nat} {Q : Option Value → q_H → Prop} {I M : Nat → Nat → Int32} {r : Nat → Nat → Option Nat} {dk : Nat → Nat × Nat}
theorem wf_mend (hW : p_wf M) {i x : Int32} : p_wf (t_mend M i x) := by
  unfold t_mend
  by_cases hi : p_is i (p_tn M)
  · obtain ⟨t0, hk, rfl⟩ := hi
    rw [p_sel_ok hW hk]
    split
    · unfold p_men
      rcases lout_ok (x := x) (p_pc_eq hW (wf_si hW hk)).2 3 1 with h | ⟨R, h, r1, r2, r3, r4⟩
      · rw [if_pos h]; exact hW
      · rw [h, if_neg (by rw [n_nege (by omega) (by omega) (by omega)]; exact not_false), n_cl (by omega)]
        exact wf_fil hW r3 (by omega)
    · exact hW
  · rw [p_sel_no hW hi]; exact hW
theorem c_mend (hW : p_wf M) (hC : p_CR L r dk n I M) {i x : Int32} (hQ : ∀ I' r', p_cc I I' → p_CR L r' dk n I' (t_mend M i x) → Q (some (.int (a_least M i x))) (p_h L I' r' dk n)) :
    q_wp (d + 9) c 7028 0 [.ref 32, .int i, .int x, q_jk, q_jk] [] (p_h L I r dk n) Q := by
  simp only [a_least, t_mend, l_0, l_1, l_2, l_3, l_4, l_5, l_6, l_7, l_8, l_9, l_10, l_11, l_12, l_13, l_14, l_15, l_16, l_17, l_18, l_19, l_20, l_24, l_32, l_40, l_41, l_42, l_43, l_45, l_48, l_57, l_59, l_60, l_61, l_63, l_64, l_80, l_96, l_97, l_99, l_100, l_122, l_160, l_200, l_320, l_640, l_999, l_1000, l_1200, l_4000, l_99999, l_100000, l_100001, l_100002, l_100006, l_100010, l_252645135, l_858993459, l_1431655765] at hQ
  by_cases hi : p_is i (p_tn M)
  · obtain ⟨t0, hk, rfl⟩ := hi
    obtain ⟨t, ht, htn, hto⟩ := hC.2.2.1 t0 hk
    have h32 : 32 ≤ t := by have := hto.1; omega
    rw [p_sel_ok hW hk, p_sel_ok hW hk] at hQ
    by_cases hx : Int32.ofNat 0 ≤ x ∧ x ≤ Int32.ofNat 99
    · simp only [if_pos hx] at hQ
      simp (disch := omega) only [r7028_0, r7028_1, r7028_2, r7028_5, r7028_5n, r7028_6, r7028_6n, r7028_7, r7028_7n, r7028_10, r7028_12, r7028_13, r7028_14, r7028_15, r7028_17, r7028_20, r7028_23, r7028_25, r7028_26, r7028_27, r7028_27n, r7028_28, r7028_29, s_tossAt hW hC hk ht h32, s_within, hx, h32, b_eq0, b_eq1, b_0eq, ite_not, not_true_eq_false, not_false_eq_true, ↓reduceIte, va_rf_some, va_rf_none, cat_int, cat_ref, cat_null, cat_jk, q_cs_nil, q_cs_int, q_cs_ref, q_cs_long, q_tl_some, q_tl_none, nz_0, nz_1, nzn_0, nzn_1, nz_b, true_and, and_true, Nat.reduceLeDiff, Nat.reduceAdd, l_0, l_1, l_2, l_3, l_4, l_5, l_6, l_7, l_8, l_9, l_10, l_11, l_12, l_13, l_14, l_15, l_16, l_17, l_18, l_19, l_20, l_24, l_32, l_40, l_41, l_42, l_43, l_45, l_48, l_57, l_59, l_60, l_61, l_63, l_64, l_80, l_96, l_97, l_99, l_100, l_122, l_160, l_200, l_320, l_640, l_999, l_1000, l_1200, l_4000, l_99999, l_100000, l_100001, l_100002, l_100006, l_100010, l_252645135, l_858993459, l_1431655765, n_cl, n_lt, n_le, n_eq, n_in, n_add, n_mul, n_sub, n_div, n_mod, n_addneg, n_negl, n_nege, Nat.add_sub_cancel, d_ltT, d_ltF, d_leT, d_leF, d_eqT, d_eqF, ↓reduceIte, Nat.reduceLeDiff, Nat.reduceAdd, Nat.reduceMul, Nat.reduceSub, Nat.reduceLT, Nat.zero_add, Nat.add_zero, not_false_eq_true, pK_32, pK_33, pK_34, pK_35, pK_36, pK_37, pK_38, pK_39, pK_40, pK_41, pK_42, pK_43, pK_44, pR_32_0, pR_32_1, pR_32_2, pR_32_3, pR_32_4, pR_32_5, pR_32_6, pR_32_7, pR_32_8, pR_33_0, pR_33_1, pR_33_2, pR_33_3, pR_36_0, pR_36_1, pR_36_2, pR_36_3, pR_37_0, pR_37_1, pR_37_3, pR_37_4, pR_42_0, pR_42_3, pK_124, pK_125, pK_126, pK_127, pK_128, pK_129, pK_130, pK_131, pK_132, pK_133, pK_134, pR_124_0, pR_126_0, pR_128_0, pR_130_0, pR_134_0, pR_134_1, and_self]
      refine s_leastFiling hW hC hk ht hto fun I' r' h1 => ?_
      have hC1 := p_CR_cs hC h1
      have hcc : p_cc I I' := fun a ha => h1.1 a (by omega)
      have hs4 := wf_si hW hk
      obtain ⟨e, h6⟩ := p_pc_eq hW hs4
      unfold p_men at hQ
      rcases lout_ok (x := x) h6 3 1 with h | ⟨R, h, r1, r2, r3, r4⟩
      · rw [h, if_pos rfl] at hQ
        rw [h]
        have hlt : (-Int32.ofNat 1 < Int32.ofNat 0) = True := eq_true (by decide)
        simp (disch := omega) only [q_tl_some, r7028_32, r7028_34, r7028_36, r7028_67, r7028_69, hlt, b_eq0, b_eq1, b_0eq, ite_not, not_true_eq_false, not_false_eq_true, ↓reduceIte, va_rf_some, va_rf_none, cat_int, cat_ref, cat_null, cat_jk, q_cs_nil, q_cs_int, q_cs_ref, q_cs_long, q_tl_some, q_tl_none, nz_0, nz_1, nzn_0, nzn_1, nz_b, true_and, and_true, Nat.reduceLeDiff, Nat.reduceAdd, l_0, l_1, l_2, l_3, l_4, l_5, l_6, l_7, l_8, l_9, l_10, l_11, l_12, l_13, l_14, l_15, l_16, l_17, l_18, l_19, l_20, l_24, l_32, l_40, l_41, l_42, l_43, l_45, l_48, l_57, l_59, l_60, l_61, l_63, l_64, l_80, l_96, l_97, l_99, l_100, l_122, l_160, l_200, l_320, l_640, l_999, l_1000, l_1200, l_4000, l_99999, l_100000, l_100001, l_100002, l_100006, l_100010, l_252645135, l_858993459, l_1431655765, n_cl, n_lt, n_le, n_eq, n_in, n_add, n_mul, n_sub, n_div, n_mod, n_addneg, n_negl, n_nege, Nat.add_sub_cancel, d_ltT, d_ltF, d_leT, d_leF, d_eqT, d_eqF, ↓reduceIte, Nat.reduceLeDiff, Nat.reduceAdd, Nat.reduceMul, Nat.reduceSub, Nat.reduceLT, Nat.zero_add, Nat.add_zero, not_false_eq_true, pK_32, pK_33, pK_34, pK_35, pK_36, pK_37, pK_38, pK_39, pK_40, pK_41, pK_42, pK_43, pK_44, pR_32_0, pR_32_1, pR_32_2, pR_32_3, pR_32_4, pR_32_5, pR_32_6, pR_32_7, pR_32_8, pR_33_0, pR_33_1, pR_33_2, pR_33_3, pR_36_0, pR_36_1, pR_36_2, pR_36_3, pR_37_0, pR_37_1, pR_37_3, pR_37_4, pR_42_0, pR_42_3, pK_124, pK_125, pK_126, pK_127, pK_128, pK_129, pK_130, pK_131, pK_132, pK_133, pK_134, pR_124_0, pR_126_0, pR_128_0, pR_130_0, pR_134_0, pR_134_1]
        exact hQ I' r' hcc hC1
      · rw [h, if_neg (by rw [n_nege (by omega) (by omega) (by omega)]; exact not_false), n_cl (by omega)] at hQ
        rw [h]
        have kt : p_K L dk t = (6, 0) := (p_K_dyn hto.1).trans hto.2.1
        have rt : p_R r' t 1 = some (80 + 11 * p_si M t0) := (p_R_dyn hto.1).trans ((h1.2 t 1 (by have := hto.1; omega)).trans hto.2.2.2.2.2.2.2.2.2)
        have hsk : p_ska (80 + 11 * p_si M t0) := by unfold p_ska; omega
        obtain ⟨j1, j2, j3, j4, j5⟩ := k_st (L := L) (dk := dk) hsk
        have sr := (k_sr (r := r') hsk).1
        obtain ⟨w1, w2⟩ := k_row (L := L) (dk := dk) (r := r') hsk (show R / 100 % 10 < 5 by omega)
        have hrow32 : 32 ≤ 80 + 11 * p_si M t0 + 2 + R / 100 % 10 := by omega
        simp (disch := omega) only [q_tl_some, r7028_32, r7028_34, r7028_36, r7028_39, r7028_39n, r7028_40, r7028_43, r7028_46, r7028_48, r7028_50, r7028_51, r7028_53, r7028_54, r7028_55, r7028_57, r7028_60, r7028_61, r7028_63, r7028_65, r7028_66, r7028_67, r7028_69, kt, rt, j1, j2, j4, j5, sr, w1, w2, h32, hrow32, b_eq0, b_eq1, b_0eq, ite_not, not_true_eq_false, not_false_eq_true, ↓reduceIte, va_rf_some, va_rf_none, cat_int, cat_ref, cat_null, cat_jk, q_cs_nil, q_cs_int, q_cs_ref, q_cs_long, q_tl_some, q_tl_none, nz_0, nz_1, nzn_0, nzn_1, nz_b, true_and, and_true, Nat.reduceLeDiff, Nat.reduceAdd, l_0, l_1, l_2, l_3, l_4, l_5, l_6, l_7, l_8, l_9, l_10, l_11, l_12, l_13, l_14, l_15, l_16, l_17, l_18, l_19, l_20, l_24, l_32, l_40, l_41, l_42, l_43, l_45, l_48, l_57, l_59, l_60, l_61, l_63, l_64, l_80, l_96, l_97, l_99, l_100, l_122, l_160, l_200, l_320, l_640, l_999, l_1000, l_1200, l_4000, l_99999, l_100000, l_100001, l_100002, l_100006, l_100010, l_252645135, l_858993459, l_1431655765, n_cl, n_lt, n_le, n_eq, n_in, n_add, n_mul, n_sub, n_div, n_mod, n_addneg, n_negl, n_nege, Nat.add_sub_cancel, d_ltT, d_ltF, d_leT, d_leF, d_eqT, d_eqF, ↓reduceIte, Nat.reduceLeDiff, Nat.reduceAdd, Nat.reduceMul, Nat.reduceSub, Nat.reduceLT, Nat.zero_add, Nat.add_zero, not_false_eq_true, pK_32, pK_33, pK_34, pK_35, pK_36, pK_37, pK_38, pK_39, pK_40, pK_41, pK_42, pK_43, pK_44, pR_32_0, pR_32_1, pR_32_2, pR_32_3, pR_32_4, pR_32_5, pR_32_6, pR_32_7, pR_32_8, pR_33_0, pR_33_1, pR_33_2, pR_33_3, pR_36_0, pR_36_1, pR_36_2, pR_36_3, pR_37_0, pR_37_1, pR_37_3, pR_37_4, pR_42_0, pR_42_3, pK_124, pK_125, pK_126, pK_127, pK_128, pK_129, pK_130, pK_131, pK_132, pK_133, pK_134, pR_124_0, pR_126_0, pR_128_0, pR_130_0, pR_134_0, pR_134_1]
        exact hQ _ r' (fun a ha => (q_up_fa (by omega)).trans (hcc a ha)) (CR_fil hC1 hs4 (by omega) (by omega) fun z hz => (p_pc_eq hW hz).2)
    · simp only [if_neg hx] at hQ
      simp (disch := omega) only [r7028_0, r7028_1, r7028_2, r7028_5, r7028_5n, r7028_6, r7028_6n, r7028_7, r7028_7n, r7028_10, r7028_12, r7028_13, r7028_14, r7028_15, r7028_17, r7028_20, r7028_23, r7028_25, s_tossAt hW hC hk ht h32, s_within, hx, h32, b_eq0, b_eq1, b_0eq, ite_not, not_true_eq_false, not_false_eq_true, ↓reduceIte, va_rf_some, va_rf_none, cat_int, cat_ref, cat_null, cat_jk, q_cs_nil, q_cs_int, q_cs_ref, q_cs_long, q_tl_some, q_tl_none, nz_0, nz_1, nzn_0, nzn_1, nz_b, true_and, and_true, Nat.reduceLeDiff, Nat.reduceAdd, l_0, l_1, l_2, l_3, l_4, l_5, l_6, l_7, l_8, l_9, l_10, l_11, l_12, l_13, l_14, l_15, l_16, l_17, l_18, l_19, l_20, l_24, l_32, l_40, l_41, l_42, l_43, l_45, l_48, l_57, l_59, l_60, l_61, l_63, l_64, l_80, l_96, l_97, l_99, l_100, l_122, l_160, l_200, l_320, l_640, l_999, l_1000, l_1200, l_4000, l_99999, l_100000, l_100001, l_100002, l_100006, l_100010, l_252645135, l_858993459, l_1431655765, n_cl, n_lt, n_le, n_eq, n_in, n_add, n_mul, n_sub, n_div, n_mod, n_addneg, n_negl, n_nege, Nat.add_sub_cancel, d_ltT, d_ltF, d_leT, d_leF, d_eqT, d_eqF, ↓reduceIte, Nat.reduceLeDiff, Nat.reduceAdd, Nat.reduceMul, Nat.reduceSub, Nat.reduceLT, Nat.zero_add, Nat.add_zero, not_false_eq_true, pK_32, pK_33, pK_34, pK_35, pK_36, pK_37, pK_38, pK_39, pK_40, pK_41, pK_42, pK_43, pK_44, pR_32_0, pR_32_1, pR_32_2, pR_32_3, pR_32_4, pR_32_5, pR_32_6, pR_32_7, pR_32_8, pR_33_0, pR_33_1, pR_33_2, pR_33_3, pR_36_0, pR_36_1, pR_36_2, pR_36_3, pR_37_0, pR_37_1, pR_37_3, pR_37_4, pR_42_0, pR_42_3, pK_124, pK_125, pK_126, pK_127, pK_128, pK_129, pK_130, pK_131, pK_132, pK_133, pK_134, pR_124_0, pR_126_0, pR_128_0, pR_130_0, pR_134_0, pR_134_1]
      exact hQ I r (fun _ _ => rfl) hC
  · simp only [p_sel_no hW hi] at hQ
    simp (disch := omega) only [r7028_0, r7028_1, r7028_2, r7028_5, r7028_5n, r7028_6, r7028_6n, r7028_7, r7028_7n, r7028_10, r7028_12, s_tossAt_no hW hC hi, b_eq0, b_eq1, b_0eq, ite_not, not_true_eq_false, not_false_eq_true, ↓reduceIte, va_rf_some, va_rf_none, cat_int, cat_ref, cat_null, cat_jk, q_cs_nil, q_cs_int, q_cs_ref, q_cs_long, q_tl_some, q_tl_none, nz_0, nz_1, nzn_0, nzn_1, nz_b, true_and, and_true, Nat.reduceLeDiff, Nat.reduceAdd, l_0, l_1, l_2, l_3, l_4, l_5, l_6, l_7, l_8, l_9, l_10, l_11, l_12, l_13, l_14, l_15, l_16, l_17, l_18, l_19, l_20, l_24, l_32, l_40, l_41, l_42, l_43, l_45, l_48, l_57, l_59, l_60, l_61, l_63, l_64, l_80, l_96, l_97, l_99, l_100, l_122, l_160, l_200, l_320, l_640, l_999, l_1000, l_1200, l_4000, l_99999, l_100000, l_100001, l_100002, l_100006, l_100010, l_252645135, l_858993459, l_1431655765, n_cl, n_lt, n_le, n_eq, n_in, n_add, n_mul, n_sub, n_div, n_mod, n_addneg, n_negl, n_nege, Nat.add_sub_cancel, d_ltT, d_ltF, d_leT, d_leF, d_eqT, d_eqF, ↓reduceIte, Nat.reduceLeDiff, Nat.reduceAdd, Nat.reduceMul, Nat.reduceSub, Nat.reduceLT, Nat.zero_add, Nat.add_zero, not_false_eq_true, pK_32, pK_33, pK_34, pK_35, pK_36, pK_37, pK_38, pK_39, pK_40, pK_41, pK_42, pK_43, pK_44, pR_32_0, pR_32_1, pR_32_2, pR_32_3, pR_32_4, pR_32_5, pR_32_6, pR_32_7, pR_32_8, pR_33_0, pR_33_1, pR_33_2, pR_33_3, pR_36_0, pR_36_1, pR_36_2, pR_36_3, pR_37_0, pR_37_1, pR_37_3, pR_37_4, pR_42_0, pR_42_3, pK_124, pK_125, pK_126, pK_127, pK_128, pK_129, pK_130, pK_131, pK_132, pK_133, pK_134, pR_124_0, pR_126_0, pR_128_0, pR_130_0, pR_134_0, pR_134_1]
    exact hQ I r (fun _ _ => rfl) hC
end
