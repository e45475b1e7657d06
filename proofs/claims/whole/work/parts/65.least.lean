/-! what to file least -/
def p_lv (M : Nat → Nat → Int32) (s y j : Nat) : Int32 := M (140 + j / 2 % 2) (6 * s + j / 4) + (if j % 2 = 0 then -Int32.ofNat y else Int32.ofNat y)
abbrev p_lok (M : Nat → Nat → Int32) (k : Nat) (x : Int32) (y j : Nat) : Prop := (0 ≤ p_lv M (p_si M k) y j ∧ p_lv M (p_si M k) y j ≤ 20) ∧ p_bk (p_rowM (p_fil M (p_si M k) (j / 2 % 2) (j / 4) (p_lv M (p_si M k) y j)) k) x
def p_lin (M : Nat → Nat → Int32) (k : Nat) (x : Int32) (y : Nat) : Nat → Nat → Option Nat
  | 0, _ => none
  | m + 1, j => if p_lok M k x y j then some j else p_lin M k x y m (j + 1)
def p_lrs (M : Nat → Nat → Int32) (s y j : Nat) : Int32 := Int32.ofNat (1000 * (j / 4) + 100 * (j / 2 % 2)) + p_lv M s y j
def p_lout (M : Nat → Nat → Int32) (k : Nat) (x : Int32) : Nat → Nat → Int32
  | 0, _ => -1
  | m + 1, y => match p_lin M k x y (4 * p_pc M (p_si M k)) 0 with
    | some j => p_lrs M (p_si M k) y j
    | none => p_lout M k x m (y + 1)
def a_least (M : Nat → Nat → Int32) (i x : Int32) : Int32 := p_sel M i (-5) fun t => if 0 ≤ x ∧ x ≤ 99 then p_lout M t x 3 1 else -7
theorem lin_succ {M : Nat → Nat → Int32} {k : Nat} {x : Int32} {y m j : Nat} : p_lin M k x y (m + 1) j = if p_lok M k x y j then some j else p_lin M k x y m (j + 1) := rfl
section
variable {d c L n : Nat} {Q : Option Value → q_H → Prop} {I M : Nat → Nat → Int32} {r : Nat → Nat → Option Nat} {dk : Nat → Nat × Nat}
theorem s_filedWell {h : q_H} {row : Nat} {v : Int32} (hr : row < 3) : q_wp (d + 2) c 7053 0 [.int (Int32.ofNat row), .int v] [] h Q = Q (some (.int (if (if row = 2 then 1 else 0) ≤ v ∧ v ≤ 20 then 1 else 0))) h := by
  have : row = 0 ∨ row = 1 ∨ row = 2 := by omega
  rcases this with rfl | rfl | rfl <;> simp (disch := omega) only [r7053_0, r7053_1, r7053_2, r7053_3, r7053_6, r7053_7, r7053_10, r7053_11, r7053_13, r7053_16, s_within, va_rf_some, va_rf_none, cat_int, cat_ref, cat_null, cat_jk, q_cs_nil, q_cs_int, q_cs_ref, q_cs_long, q_tl_some, q_tl_none, nz_0, nz_1, nzn_0, nzn_1, nz_b, true_and, and_true, Nat.reduceLeDiff, Nat.reduceAdd, l_0, l_1, l_2, l_3, l_4, l_5, l_6, l_7, l_8, l_9, l_10, l_11, l_12, l_13, l_14, l_15, l_16, l_17, l_18, l_19, l_20, l_24, l_32, l_40, l_41, l_42, l_43, l_45, l_48, l_57, l_59, l_60, l_61, l_63, l_64, l_80, l_96, l_97, l_99, l_100, l_122, l_160, l_200, l_320, l_399, l_640, l_999, l_1000, l_1200, l_1699, l_4000, l_6399, l_99999, l_100000, l_100001, l_100002, l_100006, l_100010, l_252645135, l_858993459, l_1431655765, l_2147483647, n_cl, n_lt, n_le, n_eq, n_in, n_add, n_mul, n_sub, n_div, n_mod, n_addneg, n_negl, n_nege, Nat.add_sub_cancel, d_ltT, d_ltF, d_leT, d_leF, d_eqT, d_eqF, ↓reduceIte, Nat.reduceLeDiff, Nat.reduceAdd, Nat.reduceMul, Nat.reduceSub, Nat.reduceLT, Nat.zero_add, Nat.add_zero, not_false_eq_true, nzn_b]
theorem s_lin {k t b u vv y : Nat} {x : Int32} {r0 : Nat → Nat → Option Nat} {I0 : Nat → Nat → Int32} (hW : p_wf M) (hk : k < p_tn M) (hy : 1 ≤ y ∧ y ≤ 3)
    (hS : ∀ j I', p_lin M k x y (4 * p_pc M (p_si M k)) 0 = some j → p_cs r0 I0 r I' → Q (some (.int (p_lrs M (p_si M k) y j))) (p_h L I' r dk n))
    (hN : ∀ I' l5 l6 l7 l8, p_lin M k x y (4 * p_pc M (p_si M k)) 0 = none → p_cs r0 I0 r I' → p_tri L r dk I' M k (M 145 k) (M 146 k) t b u vv → l5.category = 1 → l6.category = 1 → l7.category = 1 → q_wp (d + 7) c 7065 151 [.ref 32, .ref t, .int x, .int (Int32.ofNat y), .int (Int32.ofNat (4 * p_pc M (p_si M k))), l5, l6, l7, l8] [] (p_h L I' r dk n) Q) :
    ∀ (m j : Nat) (I : Nat → Nat → Int32) (l5 l6 l7 l8 : Value), j + m = 4 * p_pc M (p_si M k) → p_lin M k x y (4 * p_pc M (p_si M k)) 0 = p_lin M k x y m j → p_cs r0 I0 r I → p_tri L r dk I M k (M 145 k) (M 146 k) t b u vv → l5.category = 1 → l6.category = 1 → l7.category = 1 →
      q_wp (d + 7) c 7065 15 [.ref 32, .ref t, .int x, .int (Int32.ofNat y), .int (Int32.ofNat j), l5, l6, l7, l8] [] (p_h L I r dk n) Q
  | 0, j, I, l5, l6, l7, l8, hj, hl, h1, h2, c5, c6, c7 => by
    obtain ⟨e, h6⟩ := p_pc_eq hW (wf_si hW hk)
    have e3 : I 69 3 = Int32.ofNat (p_pc M (p_si M k)) := h2.2.2.2.2.2.2.2.2.2.2.2.1.1.trans e
    obtain rfl : j = 4 * p_pc M (p_si M k) := hj
    rw [r7065_15]
    simp (disch := omega) only [r7065_17, r7065_18, r7065_19, r7065_22, r7065_25, r7065_26, va_rf_some, va_rf_none, cat_int, cat_ref, cat_null, cat_jk, q_cs_nil, q_cs_int, q_cs_ref, q_cs_long, q_tl_some, q_tl_none, nz_0, nz_1, nzn_0, nzn_1, nz_b, true_and, and_true, Nat.reduceLeDiff, Nat.reduceAdd, l_0, l_1, l_2, l_3, l_4, l_5, l_6, l_7, l_8, l_9, l_10, l_11, l_12, l_13, l_14, l_15, l_16, l_17, l_18, l_19, l_20, l_24, l_32, l_40, l_41, l_42, l_43, l_45, l_48, l_57, l_59, l_60, l_61, l_63, l_64, l_80, l_96, l_97, l_99, l_100, l_122, l_160, l_200, l_320, l_399, l_640, l_999, l_1000, l_1200, l_1699, l_4000, l_6399, l_99999, l_100000, l_100001, l_100002, l_100006, l_100010, l_252645135, l_858993459, l_1431655765, l_2147483647, n_cl, n_lt, n_le, n_eq, n_in, n_add, n_mul, n_sub, n_div, n_mod, n_addneg, n_negl, n_nege, Nat.add_sub_cancel, d_ltT, d_ltF, d_leT, d_leF, d_eqT, d_eqF, ↓reduceIte, Nat.reduceLeDiff, Nat.reduceAdd, Nat.reduceMul, Nat.reduceSub, Nat.reduceLT, Nat.zero_add, Nat.add_zero, not_false_eq_true, pK_32, pK_33, pK_34, pK_35, pK_36, pK_37, pK_38, pK_39, pK_40, pK_41, pK_42, pK_43, pK_44, pR_32_0, pR_32_1, pR_32_2, pR_32_3, pR_32_4, pR_32_5, pR_32_6, pR_32_7, pR_32_8, pR_33_0, pR_33_1, pR_33_2, pR_33_3, pR_36_0, pR_36_1, pR_36_2, pR_36_3, pR_37_0, pR_37_1, pR_37_3, pR_37_4, pR_42_0, pR_42_3, pK_124, pK_125, pK_126, pK_127, pK_128, pK_129, pK_130, pK_131, pK_132, pK_133, pK_134, pR_124_0, pR_126_0, pR_128_0, pR_130_0, pR_134_0, pR_134_1, pK_69, e3]
    exact hN I l5 l6 l7 l8 hl h1 h2 c5 c6 c7
  | m + 1, j, I, l5, l6, l7, l8, hj, hl, h1, h2, c5, c6, c7 => by
    have hs := wf_si hW hk
    obtain ⟨e, h6⟩ := p_pc_eq hW hs
    have hst := h2.2.2.2.2.2.2.2.2.2.2.2.1
    have e3 : I 69 3 = Int32.ofNat (p_pc M (p_si M k)) := hst.1.trans e
    have hrow : j / 2 % 2 < 2 := Nat.mod_lt _ (by omega)
    have hp : j / 4 < p_pc M (p_si M k) := by omega
    obtain ⟨w1, w2⟩ := k_row (L := L) (dk := dk) (r := r) (a := 69) (.inl rfl) (show j / 2 % 2 < 5 by omega)
    simp only [Nat.reduceAdd] at w1 w2
    have ew : I (71 + j / 2 % 2) (j / 4) = M (140 + j / 2 % 2) (6 * p_si M k + j / 4) := by
      obtain ⟨y1, y2, -⟩ := hst.2 (j / 4) hp
      have : j / 2 % 2 = 0 ∨ j / 2 % 2 = 1 := by omega
      rcases this with h | h <;> rw [h]
      · exact y1
      · exact y2
    have ev : (if j % 2 = 0 then M (140 + j / 2 % 2) (6 * p_si M k + j / 4) - Int32.ofNat y else M (140 + j / 2 % 2) (6 * p_si M k + j / 4) + Int32.ofNat y) = p_lv M (p_si M k) y j := by
      unfold p_lv
      split
      · rw [Int32.sub_eq_add_neg]
      · rfl
    have hr2 : (j / 2 % 2 = 2) = False := eq_false (by omega)
    rw [lin_succ] at hl
    rw [r7065_15]
    simp (disch := omega) only [r7065_17, r7065_18, r7065_19, r7065_22, r7065_25, r7065_26, r7065_29, r7065_31, r7065_32, r7065_33, r7065_35, r7065_37, r7065_38, r7065_39, r7065_40, r7065_41, r7065_43, r7065_44, r7065_47, r7065_50, r7065_52, r7065_53, r7065_55, r7065_56, r7065_58, r7065_60, r7065_61, r7065_62, r7065_65, r7065_67, r7065_68, r7065_69, r7065_72, r7065_74, r7065_75, q_join, va_rf_some, va_rf_none, cat_int, cat_ref, cat_null, cat_jk, q_cs_nil, q_cs_int, q_cs_ref, q_cs_long, q_tl_some, q_tl_none, nz_0, nz_1, nzn_0, nzn_1, nz_b, true_and, and_true, Nat.reduceLeDiff, Nat.reduceAdd, l_0, l_1, l_2, l_3, l_4, l_5, l_6, l_7, l_8, l_9, l_10, l_11, l_12, l_13, l_14, l_15, l_16, l_17, l_18, l_19, l_20, l_24, l_32, l_40, l_41, l_42, l_43, l_45, l_48, l_57, l_59, l_60, l_61, l_63, l_64, l_80, l_96, l_97, l_99, l_100, l_122, l_160, l_200, l_320, l_399, l_640, l_999, l_1000, l_1200, l_1699, l_4000, l_6399, l_99999, l_100000, l_100001, l_100002, l_100006, l_100010, l_252645135, l_858993459, l_1431655765, l_2147483647, n_cl, n_lt, n_le, n_eq, n_in, n_add, n_mul, n_sub, n_div, n_mod, n_addneg, n_negl, n_nege, Nat.add_sub_cancel, d_ltT, d_ltF, d_leT, d_leF, d_eqT, d_eqF, ↓reduceIte, Nat.reduceLeDiff, Nat.reduceAdd, Nat.reduceMul, Nat.reduceSub, Nat.reduceLT, Nat.zero_add, Nat.add_zero, not_false_eq_true, pK_32, pK_33, pK_34, pK_35, pK_36, pK_37, pK_38, pK_39, pK_40, pK_41, pK_42, pK_43, pK_44, pR_32_0, pR_32_1, pR_32_2, pR_32_3, pR_32_4, pR_32_5, pR_32_6, pR_32_7, pR_32_8, pR_33_0, pR_33_1, pR_33_2, pR_33_3, pR_36_0, pR_36_1, pR_36_2, pR_36_3, pR_37_0, pR_37_1, pR_37_3, pR_37_4, pR_42_0, pR_42_3, pK_124, pK_125, pK_126, pK_127, pK_128, pK_129, pK_130, pK_131, pK_132, pK_133, pK_134, pR_124_0, pR_126_0, pR_128_0, pR_130_0, pR_134_0, pR_134_1, pK_69, pK_70, pR_69_1, e3, w1, w2, ew, c5, c6, c7]
    simp (disch := omega) only [ev, r7065_76, r7065_78, r7065_80, r7065_82, r7065_85, r7065_88, r7065_91, r7065_92, r7065_95, r7065_98, r7065_100, r7065_101, r7065_103, r7065_105, r7065_106, r7065_107, r7065_108, s_filedWell, hr2, b_eq0, ite_not, cat_int, va_rf_some, va_rf_none, cat_int, cat_ref, cat_null, cat_jk, q_cs_nil, q_cs_int, q_cs_ref, q_cs_long, q_tl_some, q_tl_none, nz_0, nz_1, nzn_0, nzn_1, nz_b, true_and, and_true, Nat.reduceLeDiff, Nat.reduceAdd, l_0, l_1, l_2, l_3, l_4, l_5, l_6, l_7, l_8, l_9, l_10, l_11, l_12, l_13, l_14, l_15, l_16, l_17, l_18, l_19, l_20, l_24, l_32, l_40, l_41, l_42, l_43, l_45, l_48, l_57, l_59, l_60, l_61, l_63, l_64, l_80, l_96, l_97, l_99, l_100, l_122, l_160, l_200, l_320, l_399, l_640, l_999, l_1000, l_1200, l_1699, l_4000, l_6399, l_99999, l_100000, l_100001, l_100002, l_100006, l_100010, l_252645135, l_858993459, l_1431655765, l_2147483647, n_cl, n_lt, n_le, n_eq, n_in, n_add, n_mul, n_sub, n_div, n_mod, n_addneg, n_negl, n_nege, Nat.add_sub_cancel, d_ltT, d_ltF, d_leT, d_leF, d_eqT, d_eqF, ↓reduceIte, Nat.reduceLeDiff, Nat.reduceAdd, Nat.reduceMul, Nat.reduceSub, Nat.reduceLT, Nat.zero_add, Nat.add_zero, not_false_eq_true, pK_32, pK_33, pK_34, pK_35, pK_36, pK_37, pK_38, pK_39, pK_40, pK_41, pK_42, pK_43, pK_44, pR_32_0, pR_32_1, pR_32_2, pR_32_3, pR_32_4, pR_32_5, pR_32_6, pR_32_7, pR_32_8, pR_33_0, pR_33_1, pR_33_2, pR_33_3, pR_36_0, pR_36_1, pR_36_2, pR_36_3, pR_37_0, pR_37_1, pR_37_3, pR_37_4, pR_42_0, pR_42_3, pK_124, pK_125, pK_126, pK_127, pK_128, pK_129, pK_130, pK_131, pK_132, pK_133, pK_134, pR_124_0, pR_126_0, pR_128_0, pR_130_0, pR_134_0, pR_134_1, pK_69, pK_70, pR_69_1, w1, w2, ew]
    by_cases hv : Int32.ofNat 0 ≤ p_lv M (p_si M k) y j ∧ p_lv M (p_si M k) y j ≤ Int32.ofNat 20
    · rw [if_pos hv]
      have ht := tri_fil (v := p_lv M (p_si M k) y j) h2 (show j / 2 % 2 < 3 by omega) (show j / 4 < 6 by omega) h6
      have hfy := fy_sim (wf_fy hW hk (wf_way hW hk).1 (wf_way hW hk).2) (sim_fil (s := p_si M k) (p := j / 4) (v := p_lv M (p_si M k) y j) (show j / 2 % 2 < 3 by omega) sim_refl) (by rw [fil_a (by omega)])
      refine s_raa ht.1 ht.2 hfy fun I' hg => ?_
      have cs2 : p_cs r0 I0 r I' := p_cs_trans h1 ⟨fun a ha => (hg.1 a (by omega)).trans (q_up_fa (by omega)), fun _ _ _ => rfl⟩
      have er : p_rowM (p_fil M (p_si M k) (j / 2 % 2) (j / 4) (p_lv M (p_si M k) y j)) k = p_row (p_fil M (p_si M k) (j / 2 % 2) (j / 4) (p_lv M (p_si M k) y j)) k (M 145 k) (M 146 k) false := rowM_fil (by omega)
      have elrs : Int32.ofNat (1000 * (j / 4) + 100 * (j / 2 % 2)) + p_lv M (p_si M k) y j = p_lrs M (p_si M k) y j := rfl
      simp (disch := omega) only [q_tl_some, r7065_111, r7065_114, r7065_117, r7065_119, r7065_120, r7065_122, r7065_124, r7065_125, r7065_126, r7065_128, r7065_129, r7065_130, r7065_131, r7065_134, r7065_137, r7065_139, r7065_140, r7065_142, r7065_144, r7065_145, r7065_148, b_eq0, b_eq1, b_0eq, ite_not, not_true_eq_false, not_false_eq_true, ↓reduceIte, va_rf_some, va_rf_none, cat_int, cat_ref, cat_null, cat_jk, q_cs_nil, q_cs_int, q_cs_ref, q_cs_long, q_tl_some, q_tl_none, nz_0, nz_1, nzn_0, nzn_1, nz_b, true_and, and_true, Nat.reduceLeDiff, Nat.reduceAdd, l_0, l_1, l_2, l_3, l_4, l_5, l_6, l_7, l_8, l_9, l_10, l_11, l_12, l_13, l_14, l_15, l_16, l_17, l_18, l_19, l_20, l_24, l_32, l_40, l_41, l_42, l_43, l_45, l_48, l_57, l_59, l_60, l_61, l_63, l_64, l_80, l_96, l_97, l_99, l_100, l_122, l_160, l_200, l_320, l_399, l_640, l_999, l_1000, l_1200, l_1699, l_4000, l_6399, l_99999, l_100000, l_100001, l_100002, l_100006, l_100010, l_252645135, l_858993459, l_1431655765, l_2147483647, n_cl, n_lt, n_le, n_eq, n_in, n_add, n_mul, n_sub, n_div, n_mod, n_addneg, n_negl, n_nege, Nat.add_sub_cancel, d_ltT, d_ltF, d_leT, d_leF, d_eqT, d_eqF, ↓reduceIte, Nat.reduceLeDiff, Nat.reduceAdd, Nat.reduceMul, Nat.reduceSub, Nat.reduceLT, Nat.zero_add, Nat.add_zero, not_false_eq_true, pK_32, pK_33, pK_34, pK_35, pK_36, pK_37, pK_38, pK_39, pK_40, pK_41, pK_42, pK_43, pK_44, pR_32_0, pR_32_1, pR_32_2, pR_32_3, pR_32_4, pR_32_5, pR_32_6, pR_32_7, pR_32_8, pR_33_0, pR_33_1, pR_33_2, pR_33_3, pR_36_0, pR_36_1, pR_36_2, pR_36_3, pR_37_0, pR_37_1, pR_37_3, pR_37_4, pR_42_0, pR_42_3, pK_124, pK_125, pK_126, pK_127, pK_128, pK_129, pK_130, pK_131, pK_132, pK_133, pK_134, pR_124_0, pR_126_0, pR_128_0, pR_130_0, pR_134_0, pR_134_1, pK_69, pK_70, pR_69_1, w1, w2, elrs]
      by_cases hb : p_bk (p_row (p_fil M (p_si M k) (j / 2 % 2) (j / 4) (p_lv M (p_si M k) y j)) k (M 145 k) (M 146 k) false) x
      · rw [if_pos hb]
        rw [if_pos (show p_lok M k x y j from ⟨hv, er ▸ hb⟩)] at hl
        exact hS j I' hl cs2
      · rw [if_neg hb]
        rw [if_neg (show ¬ p_lok M k x y j from fun z => hb (er ▸ z.2))] at hl
        have hback := tri_fil (row := j / 2 % 2) (q := j / 4) (v := M (140 + j / 2 % 2) (6 * p_si M k + j / 4)) (show p_tri L r dk I' _ k (M 145 k) (M 146 k) t b u vv from ⟨hg.2.2.1, hg.2.2.2.1⟩) (by omega) (by omega) (by rw [si_sim (sim_fil (by omega) sim_refl), pc_sim (sim_fil (by omega) sim_refl)]; exact h6)
        rw [si_sim (sim_fil (by omega) sim_refl), fil_back] at hback
        exact s_lin hW hk hy hS hN m (j + 1) _ _ _ _ _ (by omega) hl (p_cs_trans cs2 ⟨fun a ha => q_up_fa (by omega), fun _ _ _ => rfl⟩) hback rfl rfl rfl
    · rw [if_neg hv]
      rw [if_neg (show ¬ p_lok M k x y j from fun z => hv z.1)] at hl
      simp (disch := omega) only [r7065_145, r7065_148, va_rf_some, va_rf_none, cat_int, cat_ref, cat_null, cat_jk, q_cs_nil, q_cs_int, q_cs_ref, q_cs_long, q_tl_some, q_tl_none, nz_0, nz_1, nzn_0, nzn_1, nz_b, true_and, and_true, Nat.reduceLeDiff, Nat.reduceAdd, l_0, l_1, l_2, l_3, l_4, l_5, l_6, l_7, l_8, l_9, l_10, l_11, l_12, l_13, l_14, l_15, l_16, l_17, l_18, l_19, l_20, l_24, l_32, l_40, l_41, l_42, l_43, l_45, l_48, l_57, l_59, l_60, l_61, l_63, l_64, l_80, l_96, l_97, l_99, l_100, l_122, l_160, l_200, l_320, l_399, l_640, l_999, l_1000, l_1200, l_1699, l_4000, l_6399, l_99999, l_100000, l_100001, l_100002, l_100006, l_100010, l_252645135, l_858993459, l_1431655765, l_2147483647, n_cl, n_lt, n_le, n_eq, n_in, n_add, n_mul, n_sub, n_div, n_mod, n_addneg, n_negl, n_nege, Nat.add_sub_cancel, d_ltT, d_ltF, d_leT, d_leF, d_eqT, d_eqF, ↓reduceIte, Nat.reduceLeDiff, Nat.reduceAdd, Nat.reduceMul, Nat.reduceSub, Nat.reduceLT, Nat.zero_add, Nat.add_zero, not_false_eq_true, pK_32, pK_33, pK_34, pK_35, pK_36, pK_37, pK_38, pK_39, pK_40, pK_41, pK_42, pK_43, pK_44, pR_32_0, pR_32_1, pR_32_2, pR_32_3, pR_32_4, pR_32_5, pR_32_6, pR_32_7, pR_32_8, pR_33_0, pR_33_1, pR_33_2, pR_33_3, pR_36_0, pR_36_1, pR_36_2, pR_36_3, pR_37_0, pR_37_1, pR_37_3, pR_37_4, pR_42_0, pR_42_3, pK_124, pK_125, pK_126, pK_127, pK_128, pK_129, pK_130, pK_131, pK_132, pK_133, pK_134, pR_124_0, pR_126_0, pR_128_0, pR_130_0, pR_134_0, pR_134_1]
      exact s_lin hW hk hy hS hN m (j + 1) _ _ _ _ _ (by omega) hl h1 h2 rfl rfl rfl
end
