/-! which -/
section
variable {d c L n : Nat} {Q : Option Value → q_H → Prop} {I M : Nat → Nat → Int32} {r : Nat → Nat → Option Nat} {dk : Nat → Nat × Nat}
theorem s_tfit {s : Nat} {r0 : Nat → Nat → Option Nat} {I0 : Nat → Nat → Int32} (hW : p_wf M) (hC : p_CR L r0 dk n I0 M) (hs : s < 4) (hQ : ∀ I' r', p_cs r0 I0 r' I' → Q (some (.int (p_it (p_gt M s) 0 (p_tn M)))) (p_h L I' r' dk n)) :
    ∀ (m j : Nat) (I : Nat → Nat → Int32) (r : Nat → Nat → Option Nat), j + m = p_tn M → p_cs r0 I0 r I →
      q_wp (d + 7) c 7067 4 [.ref 32, .ref (124 + 2 * s), .int (p_it (p_gt M s) 0 j), .int (Int32.ofNat j)] [] (p_h L I r dk n) Q
  | 0, j, I, r, hj, h1 => by
    obtain ⟨e, h8⟩ := p_tn_eq hW
    have e10 := (p_CR_cs hC h1).1.2.1.trans e
    obtain rfl : j = p_tn M := hj
    rw [r7067_4]
    simp (disch := omega) only [r7067_5, r7067_6, r7067_9, r7067_49, r7067_50, va_rf_some, va_rf_none, cat_int, cat_ref, cat_null, cat_jk, q_cs_nil, q_cs_int, q_cs_ref, q_cs_long, q_tl_some, q_tl_none, nz_0, nz_1, nzn_0, nzn_1, nz_b, true_and, and_true, Nat.reduceLeDiff, Nat.reduceAdd, l_0, l_1, l_2, l_3, l_4, l_5, l_6, l_7, l_8, l_9, l_10, l_11, l_12, l_13, l_14, l_15, l_16, l_17, l_18, l_19, l_20, l_24, l_32, l_40, l_41, l_42, l_43, l_45, l_48, l_57, l_59, l_60, l_61, l_63, l_64, l_80, l_96, l_97, l_99, l_100, l_122, l_160, l_200, l_320, l_640, l_999, l_1000, l_1200, l_4000, l_99999, l_100000, l_100001, l_100002, l_100006, l_100010, l_252645135, l_858993459, l_1431655765, n_cl, n_lt, n_le, n_eq, n_in, n_add, n_mul, n_sub, n_div, n_mod, n_addneg, n_negl, n_nege, Nat.add_sub_cancel, d_ltT, d_ltF, d_leT, d_leF, d_eqT, d_eqF, ↓reduceIte, Nat.reduceLeDiff, Nat.reduceAdd, Nat.reduceMul, Nat.reduceSub, Nat.reduceLT, Nat.zero_add, Nat.add_zero, not_false_eq_true, pK_32, pK_33, pK_34, pK_35, pK_36, pK_37, pK_38, pK_39, pK_40, pK_41, pK_42, pK_43, pK_44, pR_32_0, pR_32_1, pR_32_2, pR_32_3, pR_32_4, pR_32_5, pR_32_6, pR_32_7, pR_32_8, pR_33_0, pR_33_1, pR_33_2, pR_33_3, pR_36_0, pR_36_1, pR_36_2, pR_36_3, pR_37_0, pR_37_1, pR_37_3, pR_37_4, pR_42_0, pR_42_3, pK_124, pK_125, pK_126, pK_127, pK_128, pK_129, pK_130, pK_131, pK_132, pK_133, pK_134, pR_124_0, pR_126_0, pR_128_0, pR_130_0, pR_134_0, pR_134_1, e10]
    exact hQ I r h1
  | m + 1, j, I, r, hj, h1 => by
    obtain ⟨e, h8⟩ := p_tn_eq hW
    have hC1 := p_CR_cs hC h1
    have e10 := hC1.1.2.1.trans e
    have hk : j < p_tn M := by omega
    obtain ⟨t, ht, htn, hto⟩ := hC1.2.2.1 j hk
    have h32 : 32 ≤ t := by have := hto.1; omega
    have rt : p_R r 34 j = some t := p_R_34.trans ht
    have h132 : 32 ≤ 124 + 2 * s := by omega
    rw [r7067_4]
    simp (disch := omega) only [r7067_5, r7067_6, r7067_9, r7067_12, r7067_13, r7067_14, r7067_17, r7067_18, r7067_21, r7067_22, r7067_23, va_rf_some, va_rf_none, cat_int, cat_ref, cat_null, cat_jk, q_cs_nil, q_cs_int, q_cs_ref, q_cs_long, q_tl_some, q_tl_none, nz_0, nz_1, nzn_0, nzn_1, nz_b, true_and, and_true, Nat.reduceLeDiff, Nat.reduceAdd, l_0, l_1, l_2, l_3, l_4, l_5, l_6, l_7, l_8, l_9, l_10, l_11, l_12, l_13, l_14, l_15, l_16, l_17, l_18, l_19, l_20, l_24, l_32, l_40, l_41, l_42, l_43, l_45, l_48, l_57, l_59, l_60, l_61, l_63, l_64, l_80, l_96, l_97, l_99, l_100, l_122, l_160, l_200, l_320, l_640, l_999, l_1000, l_1200, l_4000, l_99999, l_100000, l_100001, l_100002, l_100006, l_100010, l_252645135, l_858993459, l_1431655765, n_cl, n_lt, n_le, n_eq, n_in, n_add, n_mul, n_sub, n_div, n_mod, n_addneg, n_negl, n_nege, Nat.add_sub_cancel, d_ltT, d_ltF, d_leT, d_leF, d_eqT, d_eqF, ↓reduceIte, Nat.reduceLeDiff, Nat.reduceAdd, Nat.reduceMul, Nat.reduceSub, Nat.reduceLT, Nat.zero_add, Nat.add_zero, not_false_eq_true, pK_32, pK_33, pK_34, pK_35, pK_36, pK_37, pK_38, pK_39, pK_40, pK_41, pK_42, pK_43, pK_44, pR_32_0, pR_32_1, pR_32_2, pR_32_3, pR_32_4, pR_32_5, pR_32_6, pR_32_7, pR_32_8, pR_33_0, pR_33_1, pR_33_2, pR_33_3, pR_36_0, pR_36_1, pR_36_2, pR_36_3, pR_37_0, pR_37_1, pR_37_3, pR_37_4, pR_42_0, pR_42_3, pK_124, pK_125, pK_126, pK_127, pK_128, pK_129, pK_130, pK_131, pK_132, pK_133, pK_134, pR_124_0, pR_126_0, pR_128_0, pR_130_0, pR_134_0, pR_134_1, e10, rt, h32]
    refine s_aim hW hC1 (.inl rfl) hk ht hto fun I1 r1 b u v g1 g2 g3 g4 => ?_
    have hC2 := p_CR_cs hC1 g3
    simp (disch := omega) only [q_tl_none, r7067_26, r7067_27, r7067_30, r7067_30n, r7067_31, h132, va_rf_some, va_rf_none, cat_int, cat_ref, cat_null, cat_jk, q_cs_nil, q_cs_int, q_cs_ref, q_cs_long, q_tl_some, q_tl_none, nz_0, nz_1, nzn_0, nzn_1, nz_b, true_and, and_true, Nat.reduceLeDiff, Nat.reduceAdd, l_0, l_1, l_2, l_3, l_4, l_5, l_6, l_7, l_8, l_9, l_10, l_11, l_12, l_13, l_14, l_15, l_16, l_17, l_18, l_19, l_20, l_24, l_32, l_40, l_41, l_42, l_43, l_45, l_48, l_57, l_59, l_60, l_61, l_63, l_64, l_80, l_96, l_97, l_99, l_100, l_122, l_160, l_200, l_320, l_640, l_999, l_1000, l_1200, l_4000, l_99999, l_100000, l_100001, l_100002, l_100006, l_100010, l_252645135, l_858993459, l_1431655765, n_cl, n_lt, n_le, n_eq, n_in, n_add, n_mul, n_sub, n_div, n_mod, n_addneg, n_negl, n_nege, Nat.add_sub_cancel, d_ltT, d_ltF, d_leT, d_leF, d_eqT, d_eqF, ↓reduceIte, Nat.reduceLeDiff, Nat.reduceAdd, Nat.reduceMul, Nat.reduceSub, Nat.reduceLT, Nat.zero_add, Nat.add_zero, not_false_eq_true, pK_32, pK_33, pK_34, pK_35, pK_36, pK_37, pK_38, pK_39, pK_40, pK_41, pK_42, pK_43, pK_44, pR_32_0, pR_32_1, pR_32_2, pR_32_3, pR_32_4, pR_32_5, pR_32_6, pR_32_7, pR_32_8, pR_33_0, pR_33_1, pR_33_2, pR_33_3, pR_36_0, pR_36_1, pR_36_2, pR_36_3, pR_37_0, pR_37_1, pR_37_3, pR_37_4, pR_42_0, pR_42_3, pK_124, pK_125, pK_126, pK_127, pK_128, pK_129, pK_130, pK_131, pK_132, pK_133, pK_134, pR_124_0, pR_126_0, pR_128_0, pR_130_0, pR_134_0, pR_134_1, pK_45]
    refine s_unlike hW hs (she_CR hC2 hs) hC2.2.2.2.2.2.2.2.1 g4 (wf_fy hW hk (wf_way hW hk).1 (wf_way hW hk).2) fun I2 q1 q2 => ?_
    have er : p_row M j (M 145 j) (M 146 j) false = p_rowM M j := rfl
    rw [er]
    have IH := s_tfit hW hC hs hQ m (j + 1) I2 r1 (by omega) (p_cs_trans (p_cs_trans h1 g3) ⟨fun a ha => q1 a (by omega), fun _ _ _ => rfl⟩)
    have eg : p_it (p_gt M s) (Int32.ofNat 0) (j + 1) = if p_un M s (p_rowM M j) = -Int32.ofNat 1 then p_it (p_gt M s) (Int32.ofNat 0) j ||| (Int32.ofNat 1 <<< (Int32.ofNat j &&& 31)) else p_it (p_gt M s) (Int32.ofNat 0) j := rfl
    simp only [show (0 : Int32) = Int32.ofNat 0 from rfl] at IH
    rw [eg] at IH
    simp (disch := omega) only [q_tl_some, r7067_34, r7067_37, r7067_38, r7067_39, r7067_40, r7067_41, r7067_42, r7067_43, r7067_46, un_neg hW hs, ite_not, va_rf_some, va_rf_none, cat_int, cat_ref, cat_null, cat_jk, q_cs_nil, q_cs_int, q_cs_ref, q_cs_long, q_tl_some, q_tl_none, nz_0, nz_1, nzn_0, nzn_1, nz_b, true_and, and_true, Nat.reduceLeDiff, Nat.reduceAdd, l_0, l_1, l_2, l_3, l_4, l_5, l_6, l_7, l_8, l_9, l_10, l_11, l_12, l_13, l_14, l_15, l_16, l_17, l_18, l_19, l_20, l_24, l_32, l_40, l_41, l_42, l_43, l_45, l_48, l_57, l_59, l_60, l_61, l_63, l_64, l_80, l_96, l_97, l_99, l_100, l_122, l_160, l_200, l_320, l_640, l_999, l_1000, l_1200, l_4000, l_99999, l_100000, l_100001, l_100002, l_100006, l_100010, l_252645135, l_858993459, l_1431655765, n_cl, n_lt, n_le, n_eq, n_in, n_add, n_mul, n_sub, n_div, n_mod, n_addneg, n_negl, n_nege, Nat.add_sub_cancel, d_ltT, d_ltF, d_leT, d_leF, d_eqT, d_eqF, ↓reduceIte, Nat.reduceLeDiff, Nat.reduceAdd, Nat.reduceMul, Nat.reduceSub, Nat.reduceLT, Nat.zero_add, Nat.add_zero, not_false_eq_true, pK_32, pK_33, pK_34, pK_35, pK_36, pK_37, pK_38, pK_39, pK_40, pK_41, pK_42, pK_43, pK_44, pR_32_0, pR_32_1, pR_32_2, pR_32_3, pR_32_4, pR_32_5, pR_32_6, pR_32_7, pR_32_8, pR_33_0, pR_33_1, pR_33_2, pR_33_3, pR_36_0, pR_36_1, pR_36_2, pR_36_3, pR_37_0, pR_37_1, pR_37_3, pR_37_4, pR_42_0, pR_42_3, pK_124, pK_125, pK_126, pK_127, pK_128, pK_129, pK_130, pK_131, pK_132, pK_133, pK_134, pR_124_0, pR_126_0, pR_128_0, pR_130_0, pR_134_0, pR_134_1]
    split
    · rename_i hb
      rw [if_pos hb] at IH
      exact IH
    · rename_i hb
      rw [if_neg hb] at IH
      exact IH
theorem fy_law {k v : Nat} (hW : p_wf M) (hk : k < p_tn M) (hv : v < p_tx M) : p_fy (q_up M 135 26 (Int32.ofNat v)) k (M 145 k) (M 146 k) := by
  obtain ⟨⟨h1, h2, ⟨s, hs1, hs2, hs3⟩, h4, h5, h6⟩, -, ⟨g1, g2⟩, hw, hp⟩ := wf_fy hW hk (wf_way hW hk).1 (wf_way hW hk).2
  have h6' := (p_tx_eq hW).2
  have e : ∀ a, a ≠ 135 → q_up M 135 26 (Int32.ofNat v) a = M a := fun a ha => q_up_fa ha
  have hok := hW.2.2.2.2.2.2.1.2.2.2 v hv
  refine ⟨⟨h1, ?_, ⟨s, hs1, ?_, ?_⟩, ?_, ?_, ?_⟩, ⟨v, by omega, q_up_same, ?_⟩, ?_, hw, hp⟩
  · rw [e 143 (by decide)]; exact h2
  · rw [e 144 (by decide)]; exact hs2
  · rw [e 137 (by decide)]; exact hs3
  · rw [e 147 (by decide)]; exact h4
  · rw [e 148 (by decide)]; exact h5
  · rw [e 149 (by decide)]; exact h6
  · unfold p_lawok p_at p_cd at hok ⊢
    simp only [e 154 (by decide), e 153 (by decide)]
    exact hok
  · have ei : p_si (q_up M 135 26 (Int32.ofNat v)) k = p_si M k := by
      show (q_up M 135 26 (Int32.ofNat v) 144 k).toNatClampNeg = _
      rw [e 144 (by decide)]; rfl
    rw [ei]
    unfold p_swf p_pc at *
    rw [e 137 (by decide), e 138 (by decide)]
    exact ⟨g1, g2⟩
theorem fa_law {k t st b u v b' u' v' j : Nat} {w p g : Int32} {I' : Nat → Nat → Int32} (h : p_fa 45 L r dk I (q_up M 135 26 g) k w p false t st b u v) (hI : ∀ a, ¬(45 ≤ a ∧ a ≤ 56) → I' a = I a) (hI2 : ∀ j, j ≠ 1 → I' 45 j = I 45 j) (hj : j < 2147483648) (hl : p_lw r dk L I M j b' u' v') :
    p_fa 45 L (q_up r 45 4 (some b')) dk I' (q_up M 135 26 (Int32.ofNat j)) k w p false t st b' u' v' := by
  have h := p_fa_fr (.inl rfl) h (fun a ha => hI a (by omega)) hI2
  obtain ⟨a1, a2, a3, a4, a5, a6, a7, a8, hto, hsk, hst, -⟩ := h
  have ea : ∀ a, a ≠ 135 → q_up M 135 26 (Int32.ofNat j) a = q_up M 135 26 g a := fun a ha => by rw [q_up_fa ha, q_up_fa ha]
  have esi : p_si (q_up M 135 26 (Int32.ofNat j)) k = p_si (q_up M 135 26 g) k := by unfold p_si; rw [ea 144 (by decide)]
  have erl : p_rl (q_up M 135 26 (Int32.ofNat j)) = j := by unfold p_rl; rw [q_up_same, n_cl hj]
  refine ⟨(q_up_k (by decide)).trans a1, (q_up_k (by decide)).trans a2, q_up_same, a4, a5, ?_, ?_, a8, ?_, hsk, ?_, ?_⟩
  · rw [a6, q_up_k (by decide), q_up_k (by decide)]
  · rw [a7, q_up_k (by decide), q_up_k (by decide)]
  · have ht := hto.1
    have e45 : q_up r 45 4 (some b') t 1 = r t 1 := q_up_a (by omega)
    unfold p_to at hto ⊢
    rw [esi, ea 143 (by decide), ea 145 (by decide), ea 146 (by decide), ea 147 (by decide), ea 148 (by decide), ea 149 (by decide), e45]
    exact hto
  · rw [esi]
    exact p_stk_pc hst fun a x y => ea a (by omega)
  · rw [erl]
    have hb := hl.1
    have hl2 := p_lw_u (k := 4) (x := some b') hl (show 45 ≤ 45 ∧ 45 ≤ 79 by omega)
    unfold p_lw p_at p_cd at hl2 ⊢
    rw [hI u' (by omega), hI v' (by omega), q_up_fa (by decide), q_up_fa (by decide)]
    exact hl2
theorem up_id26 : q_up M 135 26 (M 135 26) = M := q_up_id rfl
theorem s_lfit {k t st s : Nat} {r0 : Nat → Nat → Option Nat} {I0 : Nat → Nat → Int32} (hW : p_wf M) (hC : p_CR L r0 dk n I0 M) (hk : k < p_tn M) (hs : s < 4) (hQ : ∀ I' r', p_cs r0 I0 r' I' → Q (some (.int (p_it (p_gl M k s) 0 (p_tx M)))) (p_h L I' r' dk n)) :
    ∀ (m j : Nat) (I : Nat → Nat → Int32) (r : Nat → Nat → Option Nat) (b u v : Nat) (g : Int32), j + m = p_tx M → p_cs r0 I0 r I → p_fa 45 L r dk I (q_up M 135 26 g) k (M 145 k) (M 146 k) false t st b u v →
      q_wp (d + 7) c 7068 14 [.ref 32, .ref t, .ref (124 + 2 * s), .int (p_it (p_gl M k s) 0 j), .int (Int32.ofNat j)] [] (p_h L I r dk n) Q
  | 0, j, I, r, b, u, v, g, hj, h1, h2 => by
    obtain ⟨e, h6⟩ := p_tx_eq hW
    have e11 := (p_CR_cs hC h1).1.2.2.1.trans e
    obtain rfl : j = p_tx M := hj
    rw [r7068_14]
    simp (disch := omega) only [r7068_16, r7068_17, r7068_20, r7068_61, r7068_62, va_rf_some, va_rf_none, cat_int, cat_ref, cat_null, cat_jk, q_cs_nil, q_cs_int, q_cs_ref, q_cs_long, q_tl_some, q_tl_none, nz_0, nz_1, nzn_0, nzn_1, nz_b, true_and, and_true, Nat.reduceLeDiff, Nat.reduceAdd, l_0, l_1, l_2, l_3, l_4, l_5, l_6, l_7, l_8, l_9, l_10, l_11, l_12, l_13, l_14, l_15, l_16, l_17, l_18, l_19, l_20, l_24, l_32, l_40, l_41, l_42, l_43, l_45, l_48, l_57, l_59, l_60, l_61, l_63, l_64, l_80, l_96, l_97, l_99, l_100, l_122, l_160, l_200, l_320, l_640, l_999, l_1000, l_1200, l_4000, l_99999, l_100000, l_100001, l_100002, l_100006, l_100010, l_252645135, l_858993459, l_1431655765, n_cl, n_lt, n_le, n_eq, n_in, n_add, n_mul, n_sub, n_div, n_mod, n_addneg, n_negl, n_nege, Nat.add_sub_cancel, d_ltT, d_ltF, d_leT, d_leF, d_eqT, d_eqF, ↓reduceIte, Nat.reduceLeDiff, Nat.reduceAdd, Nat.reduceMul, Nat.reduceSub, Nat.reduceLT, Nat.zero_add, Nat.add_zero, not_false_eq_true, pK_32, pK_33, pK_34, pK_35, pK_36, pK_37, pK_38, pK_39, pK_40, pK_41, pK_42, pK_43, pK_44, pR_32_0, pR_32_1, pR_32_2, pR_32_3, pR_32_4, pR_32_5, pR_32_6, pR_32_7, pR_32_8, pR_33_0, pR_33_1, pR_33_2, pR_33_3, pR_36_0, pR_36_1, pR_36_2, pR_36_3, pR_37_0, pR_37_1, pR_37_3, pR_37_4, pR_42_0, pR_42_3, pK_124, pK_125, pK_126, pK_127, pK_128, pK_129, pK_130, pK_131, pK_132, pK_133, pK_134, pR_124_0, pR_126_0, pR_128_0, pR_130_0, pR_134_0, pR_134_1, e11]
    exact hQ I r h1
  | m + 1, j, I, r, b, u, v, g, hj, h1, h2 => by
    obtain ⟨e, h6⟩ := p_tx_eq hW
    have hC1 := p_CR_cs hC h1
    have e11 := hC1.1.2.2.1.trans e
    obtain ⟨b', u', v', hb1, hb2, hb3⟩ := hC1.2.2.2.1 j (by omega)
    have rb : p_R r 35 j = some b' := p_R_35.trans hb1
    have hb32 : 32 ≤ b' := by have := hb3.1; omega
    have h132 : 32 ≤ 124 + 2 * s := by omega
    have hpu : q_up (p_R r) 45 4 (some b') = p_R (q_up r 45 4 (some b')) := pRu (.inl rfl) (by omega)
    rw [r7068_14]
    simp (disch := omega) only [r7068_16, r7068_17, r7068_20, r7068_23, r7068_24, r7068_27, r7068_28, r7068_31, r7068_33, r7068_34, r7068_37, r7068_38, r7068_41, r7068_41n, r7068_42, va_rf_some, va_rf_none, cat_int, cat_ref, cat_null, cat_jk, q_cs_nil, q_cs_int, q_cs_ref, q_cs_long, q_tl_some, q_tl_none, nz_0, nz_1, nzn_0, nzn_1, nz_b, true_and, and_true, Nat.reduceLeDiff, Nat.reduceAdd, l_0, l_1, l_2, l_3, l_4, l_5, l_6, l_7, l_8, l_9, l_10, l_11, l_12, l_13, l_14, l_15, l_16, l_17, l_18, l_19, l_20, l_24, l_32, l_40, l_41, l_42, l_43, l_45, l_48, l_57, l_59, l_60, l_61, l_63, l_64, l_80, l_96, l_97, l_99, l_100, l_122, l_160, l_200, l_320, l_640, l_999, l_1000, l_1200, l_4000, l_99999, l_100000, l_100001, l_100002, l_100006, l_100010, l_252645135, l_858993459, l_1431655765, n_cl, n_lt, n_le, n_eq, n_in, n_add, n_mul, n_sub, n_div, n_mod, n_addneg, n_negl, n_nege, Nat.add_sub_cancel, d_ltT, d_ltF, d_leT, d_leF, d_eqT, d_eqF, ↓reduceIte, Nat.reduceLeDiff, Nat.reduceAdd, Nat.reduceMul, Nat.reduceSub, Nat.reduceLT, Nat.zero_add, Nat.add_zero, not_false_eq_true, pK_32, pK_33, pK_34, pK_35, pK_36, pK_37, pK_38, pK_39, pK_40, pK_41, pK_42, pK_43, pK_44, pR_32_0, pR_32_1, pR_32_2, pR_32_3, pR_32_4, pR_32_5, pR_32_6, pR_32_7, pR_32_8, pR_33_0, pR_33_1, pR_33_2, pR_33_3, pR_36_0, pR_36_1, pR_36_2, pR_36_3, pR_37_0, pR_37_1, pR_37_3, pR_37_4, pR_42_0, pR_42_3, pK_124, pK_125, pK_126, pK_127, pK_128, pK_129, pK_130, pK_131, pK_132, pK_133, pK_134, pR_124_0, pR_126_0, pR_128_0, pR_130_0, pR_134_0, pR_134_1, e11, rb, hb32, h132, hpu, pK_45]
    have fa := fa_law (I' := I) h2 (fun _ _ => rfl) (fun _ _ => rfl) (show j < 2147483648 by omega) hb3
    have cs1 : p_cs r0 I0 (q_up r 45 4 (some b')) I := p_cs_trans h1 ⟨fun _ _ => rfl, fun a k' hak => by
      by_cases e : a = 45
      · subst e; exact q_up_k (by omega)
      · exact q_up_a e⟩
    have hcon : p_con I (q_up M 135 26 (Int32.ofNat j)) := by
      have := hC1.2.2.2.2.2.2.2.1
      unfold p_con at this ⊢
      rw [q_up_fa (by decide)]
      exact this
    refine s_unlike hW hs (she_CR hC1 hs) hcon fa (fy_law hW hk (by omega)) fun I2 q1 q2 => ?_
    have er : p_row (q_up M 135 26 (Int32.ofNat j)) k (M 145 k) (M 146 k) false = p_rowM (q_up M 135 26 (Int32.ofNat j)) k := by unfold p_rowM; rw [q_up_a (by decide), q_up_a (by decide)]
    rw [er]
    have IH := s_lfit hW hC hk hs hQ m (j + 1) I2 _ _ _ _ (Int32.ofNat j) (by omega) (p_cs_trans cs1 ⟨fun a ha => q1 a (by omega), fun _ _ _ => rfl⟩) (p_fa_fr (.inl rfl) fa (fun a ha => q1 a (by omega)) q2)
    have eg : p_it (p_gl M k s) (Int32.ofNat 0) (j + 1) = if p_un M s (p_rowM (q_up M 135 26 (Int32.ofNat j)) k) = -Int32.ofNat 1 then p_it (p_gl M k s) (Int32.ofNat 0) j ||| (Int32.ofNat 1 <<< (Int32.ofNat j &&& 31)) else p_it (p_gl M k s) (Int32.ofNat 0) j := rfl
    simp only [show (0 : Int32) = Int32.ofNat 0 from rfl] at IH
    rw [eg] at IH
    simp (disch := omega) only [q_tl_some, r7068_45, r7068_48, r7068_49, r7068_50, r7068_52, r7068_53, r7068_54, r7068_55, r7068_58, un_neg hW hs, ite_not, va_rf_some, va_rf_none, cat_int, cat_ref, cat_null, cat_jk, q_cs_nil, q_cs_int, q_cs_ref, q_cs_long, q_tl_some, q_tl_none, nz_0, nz_1, nzn_0, nzn_1, nz_b, true_and, and_true, Nat.reduceLeDiff, Nat.reduceAdd, l_0, l_1, l_2, l_3, l_4, l_5, l_6, l_7, l_8, l_9, l_10, l_11, l_12, l_13, l_14, l_15, l_16, l_17, l_18, l_19, l_20, l_24, l_32, l_40, l_41, l_42, l_43, l_45, l_48, l_57, l_59, l_60, l_61, l_63, l_64, l_80, l_96, l_97, l_99, l_100, l_122, l_160, l_200, l_320, l_640, l_999, l_1000, l_1200, l_4000, l_99999, l_100000, l_100001, l_100002, l_100006, l_100010, l_252645135, l_858993459, l_1431655765, n_cl, n_lt, n_le, n_eq, n_in, n_add, n_mul, n_sub, n_div, n_mod, n_addneg, n_negl, n_nege, Nat.add_sub_cancel, d_ltT, d_ltF, d_leT, d_leF, d_eqT, d_eqF, ↓reduceIte, Nat.reduceLeDiff, Nat.reduceAdd, Nat.reduceMul, Nat.reduceSub, Nat.reduceLT, Nat.zero_add, Nat.add_zero, not_false_eq_true, pK_32, pK_33, pK_34, pK_35, pK_36, pK_37, pK_38, pK_39, pK_40, pK_41, pK_42, pK_43, pK_44, pR_32_0, pR_32_1, pR_32_2, pR_32_3, pR_32_4, pR_32_5, pR_32_6, pR_32_7, pR_32_8, pR_33_0, pR_33_1, pR_33_2, pR_33_3, pR_36_0, pR_36_1, pR_36_2, pR_36_3, pR_37_0, pR_37_1, pR_37_3, pR_37_4, pR_42_0, pR_42_3, pK_124, pK_125, pK_126, pK_127, pK_128, pK_129, pK_130, pK_131, pK_132, pK_133, pK_134, pR_124_0, pR_126_0, pR_128_0, pR_130_0, pR_134_0, pR_134_1]
    split
    · rename_i hb
      rw [if_pos hb] at IH
      exact IH
    · rename_i hb
      rw [if_neg hb] at IH
      exact IH
end
