/-! a flight of the class, aimed and flown -/
theorem pRu {f j : Nat} {r : Nat → Nat → Option Nat} {v : Option Nat} (hf : f = 45 ∨ f = 57) (hj : 2 ≤ j ∧ j ≤ 4) : q_up (p_R r) f j v = p_R (q_up r f j v) := by
  have : j = 2 ∨ j = 3 ∨ j = 4 := by omega
  rcases hf with rfl | rfl <;> rcases this with rfl | rfl | rfl <;> exact p_R_up rfl
theorem p_lw_u {r : Nat → Nat → Option Nat} {dk : Nat → Nat × Nat} {L : Nat} {I M : Nat → Nat → Int32} {t b u v a k : Nat} {x : Option Nat} (h : p_lw r dk L I M t b u v) (ha : 45 ≤ a ∧ a ≤ 79) : p_lw (q_up r a k x) dk L I M t b u v := by
  obtain ⟨⟨d1, d2, d3⟩, d4, d5, d6, d7, d8, d9, d10⟩ := h
  exact ⟨⟨d1, d2, d3⟩, d4, d5, d6, (p_R_cs (q_up_a (by omega))).trans d7, (p_R_cs (q_up_a (by omega))).trans d8, d9, d10⟩
/-- what is flown: the last tick and the rows -/
def p_fd (I R : Nat → Nat → Int32) : Prop := I 45 1 = Int32.ofNat (p_last R) ∧ ∀ j, j ≤ p_last R → ∀ c, c < 7 → I (47 + c) j = R j c
def p_rowM (M : Nat → Nat → Int32) (k : Nat) : Nat → Nat → Int32 := p_row M k (M 145 k) (M 146 k) false
section
variable {d c L n : Nat} {Q : Option Value → q_H → Prop} {I M : Nat → Nat → Int32} {r : Nat → Nat → Option Nat} {dk : Nat → Nat × Nat}
theorem s_aim (hW : p_wf M) (hC : p_CR L r dk n I M) {f k t : Nat} (hf : f = 45 ∨ f = 57) (hk : k < p_tn M) (ht : r 34 k = some t) (hto : p_to r dk I M k t)
    (hQ : ∀ I' r' b u v, (∀ a, a ≠ f → I' a = I a) → (∀ j, ¬(5 ≤ j ∧ j ≤ 9) → I' f j = I f j) → p_cs r I r' I' → p_fa f L r' dk I' M k (M 145 k) (M 146 k) false t (80 + 11 * p_si M k) b u v → Q none (p_h L I' r' dk n)) :
    q_wp (d + 2) c 7056 0 [.ref 32, .ref f, .ref t] [] (p_h L I r dk n) Q := by
  obtain ⟨c1, c2, c3, c4, -⟩ := hC
  obtain ⟨-, -, -, e12, e13, e14, -⟩ := c1
  obtain ⟨rl, hrl, er⟩ := hW.2.2.2.2.2.2.1.2.1
  have hrl' : p_rl M = rl := by unfold p_rl; have := (p_tx_eq hW).2; rw [er, n_cl (by omega)]
  obtain ⟨b, u, v, hb1, hb2, hb3⟩ := c4 rl hrl
  have hto' := hto
  obtain ⟨t1, t2, t3, t4, t5, t6, t7, t8, t9, t10⟩ := hto
  have kt : p_K L dk t = (6, 0) := (p_K_dyn t1).trans t2
  have h32 : 32 ≤ t := by omega
  have hf32 : 32 ≤ f := by omega
  have hb32 : 32 ≤ b := by have := hb3.1; omega
  have hs := wf_si hW hk
  have rb : p_R r 35 rl = some b := p_R_35.trans hb1
  have h6 := (p_tx_eq hW).2
  have kf : p_K L dk f = (0, 0) := (k_fl (L := L) (r := r) (dk := dk) hf).1
  have et : ∀ (r' : Nat → Nat → Option Nat), r' t 1 = some (80 + 11 * p_si M k) → p_R r' t 1 = some (80 + 11 * p_si M k) := fun r' h => (p_R_dyn t1).trans h
  have et1 := et _ ((q_up_a (f := r) (k := 2) (v := some t) (show t ≠ f by omega)).trans t10)
  have hst32 : 32 ≤ 80 + 11 * p_si M k := by omega
  have hpu : ∀ (r0 : Nat → Nat → Option Nat) (j : Nat) (x : Option Nat), 2 ≤ j ∧ j ≤ 4 → q_up (p_R r0) f j x = p_R (q_up r0 f j x) := fun r0 j x hj => pRu hf hj
  simp (disch := omega) only [r7056_0, r7056_0n, r7056_1, r7056_1n, r7056_2, r7056_3, r7056_6, r7056_7, r7056_10, r7056_11, r7056_12, r7056_15, r7056_16, r7056_19, r7056_22, r1_0, r1_1, r1_1n, r1_2, r1_5, r1_6, r1_6n, r1_7, r1_10, r1_13, r1_14, r1_14n, r1_15, r1_18, r1_19, r1_19n, r1_20, r1_23, r1_26, r1_27, r1_27n, r1_28, r1_31, r1_34, r1_35, r1_36, r1_39, r1_40, r1_42, r1_45, r1_46, r1_47, r1_50, va_rf_some, va_rf_none, cat_int, cat_ref, cat_null, cat_jk, q_cs_nil, q_cs_int, q_cs_ref, q_cs_long, q_tl_some, q_tl_none, nz_0, nz_1, nzn_0, nzn_1, nz_b, true_and, and_true, Nat.reduceLeDiff, Nat.reduceAdd, l_0, l_1, l_2, l_3, l_4, l_5, l_6, l_7, l_8, l_9, l_10, l_11, l_12, l_13, l_14, l_15, l_16, l_17, l_18, l_19, l_20, l_24, l_32, l_40, l_41, l_42, l_43, l_45, l_48, l_57, l_59, l_60, l_61, l_63, l_64, l_80, l_96, l_97, l_99, l_100, l_122, l_160, l_200, l_320, l_640, l_999, l_1000, l_1200, l_4000, l_99999, l_100000, l_100001, l_100002, l_100006, l_100010, l_252645135, l_858993459, l_1431655765, n_cl, n_lt, n_le, n_eq, n_in, n_add, n_mul, n_sub, n_div, n_mod, n_addneg, n_negl, n_nege, Nat.add_sub_cancel, d_ltT, d_ltF, d_leT, d_leF, d_eqT, d_eqF, ↓reduceIte, Nat.reduceLeDiff, Nat.reduceAdd, Nat.reduceMul, Nat.reduceSub, Nat.reduceLT, Nat.zero_add, Nat.add_zero, not_false_eq_true, pK_32, pK_33, pK_34, pK_35, pK_36, pK_37, pK_38, pK_39, pK_40, pK_41, pK_42, pK_43, pK_44, pR_32_0, pR_32_1, pR_32_2, pR_32_3, pR_32_4, pR_32_5, pR_32_6, pR_32_7, pR_32_8, pR_33_0, pR_33_1, pR_33_2, pR_33_3, pR_36_0, pR_36_1, pR_36_2, pR_36_3, pR_37_0, pR_37_1, pR_37_3, pR_37_4, pR_42_0, pR_42_3, pK_124, pK_125, pK_126, pK_127, pK_128, pK_129, pK_130, pK_131, pK_132, pK_133, pK_134, pR_124_0, pR_126_0, pR_128_0, pR_130_0, pR_134_0, pR_134_1, e12, e13, e14, er, rb, hf32, h32, hb32, hst32, kf, kt, hpu, et1, t4, t5, q_up_a, q_tl_none]
  refine hQ _ _ b u v (fun a ha => by simp (disch := omega) only [q_up_fa]) (fun j hj => by simp (disch := omega) only [q_up_k]) ⟨fun a ha => by simp (disch := omega) only [q_up_fa], fun a k' ha => ?_⟩ ⟨?_, ?_, ?_, ?_, ?_, ?_, ?_, ?_, ?_, ?_, ?_, ?_⟩
  · by_cases e : a = f
    · subst e
      simp (disch := omega) only [q_up_k]
    · simp (disch := omega) only [q_up_a]
  · simp (disch := omega) only [q_up_k, q_up_same]
  · simp (disch := omega) only [q_up_k, q_up_same]
  · simp (disch := omega) only [q_up_k, q_up_same]
  · simp (disch := omega) only [q_up_k, q_up_same]
  · simp (disch := omega) only [q_up_k, q_up_same]
  · simp (disch := omega) only [q_up_k, q_up_same]
  · simp (disch := omega) only [q_up_k, q_up_same]
  · simp (disch := omega) only [q_up_k, q_up_same]
    rfl
  · unfold p_to at hto' ⊢
    simp (disch := omega) only [q_up_a]
    exact hto'
  · have : p_si M k = 0 ∨ p_si M k = 1 ∨ p_si M k = 2 ∨ p_si M k = 3 := by omega
    unfold p_ska
    omega
  · have := (c2 _ hs).1
    unfold p_stk at this ⊢
    simp (disch := omega) only [q_up_a]
    exact this
  · rw [hrl']
    have := p_lw_u (k := 4) (x := some b) (p_lw_u (k := 3) (x := some (80 + 11 * p_si M k)) (p_lw_u (k := 2) (x := some t) hb3 (show 45 ≤ f ∧ f ≤ 79 by omega)) (show 45 ≤ f ∧ f ≤ 79 by omega)) (show 45 ≤ f ∧ f ≤ 79 by omega)
    unfold p_lw at this ⊢
    simp (disch := omega) only [q_up_a]
    exact this
theorem s_flown (hW : p_wf M) (hC : p_CR L r dk n I M) {k t : Nat} (hk : k < p_tn M) (ht : r 34 k = some t) (hto : p_to r dk I M k t)
    (hQ : ∀ I' r' b u v, p_cs r I r' I' → p_fd I' (p_rowM M k) → p_fa 45 L r' dk I' M k (M 145 k) (M 146 k) false t (80 + 11 * p_si M k) b u v → (∀ j, j < 3 → I' 56 j = p_share M (p_si M k) j) → Q (some (.ref 45)) (p_h L I' r' dk n)) :
    q_wp (d + 6) c 7058 0 [.ref 32, .ref t] [] (p_h L I r dk n) Q := by
  simp (disch := omega) only [r7058_0, r7058_1, r7058_2, r7058_5, r7058_5n, r7058_6, va_rf_some, va_rf_none, cat_int, cat_ref, cat_null, cat_jk, q_cs_nil, q_cs_int, q_cs_ref, q_cs_long, q_tl_some, q_tl_none, nz_0, nz_1, nzn_0, nzn_1, nz_b, true_and, and_true, Nat.reduceLeDiff, Nat.reduceAdd, l_0, l_1, l_2, l_3, l_4, l_5, l_6, l_7, l_8, l_9, l_10, l_11, l_12, l_13, l_14, l_15, l_16, l_17, l_18, l_19, l_20, l_24, l_32, l_40, l_41, l_42, l_43, l_45, l_48, l_57, l_59, l_60, l_61, l_63, l_64, l_80, l_96, l_97, l_99, l_100, l_122, l_160, l_200, l_320, l_640, l_999, l_1000, l_1200, l_4000, l_99999, l_100000, l_100001, l_100002, l_100006, l_100010, l_252645135, l_858993459, l_1431655765, n_cl, n_lt, n_le, n_eq, n_in, n_add, n_mul, n_sub, n_div, n_mod, n_addneg, n_negl, n_nege, Nat.add_sub_cancel, d_ltT, d_ltF, d_leT, d_leF, d_eqT, d_eqF, ↓reduceIte, Nat.reduceLeDiff, Nat.reduceAdd, Nat.reduceMul, Nat.reduceSub, Nat.reduceLT, Nat.zero_add, Nat.add_zero, not_false_eq_true, pK_32, pK_33, pK_34, pK_35, pK_36, pK_37, pK_38, pK_39, pK_40, pK_41, pK_42, pK_43, pK_44, pR_32_0, pR_32_1, pR_32_2, pR_32_3, pR_32_4, pR_32_5, pR_32_6, pR_32_7, pR_32_8, pR_33_0, pR_33_1, pR_33_2, pR_33_3, pR_36_0, pR_36_1, pR_36_2, pR_36_3, pR_37_0, pR_37_1, pR_37_3, pR_37_4, pR_42_0, pR_42_3, pK_124, pK_125, pK_126, pK_127, pK_128, pK_129, pK_130, pK_131, pK_132, pK_133, pK_134, pR_124_0, pR_126_0, pR_128_0, pR_130_0, pR_134_0, pR_134_1]
  refine s_aim hW hC (.inl rfl) hk ht hto fun I1 r1 b u v h1 h2 h3 h4 => ?_
  simp (disch := omega) only [q_tl_none, r7058_9, r7058_10, r7058_13, va_rf_some, va_rf_none, cat_int, cat_ref, cat_null, cat_jk, q_cs_nil, q_cs_int, q_cs_ref, q_cs_long, q_tl_some, q_tl_none, nz_0, nz_1, nzn_0, nzn_1, nz_b, true_and, and_true, Nat.reduceLeDiff, Nat.reduceAdd, l_0, l_1, l_2, l_3, l_4, l_5, l_6, l_7, l_8, l_9, l_10, l_11, l_12, l_13, l_14, l_15, l_16, l_17, l_18, l_19, l_20, l_24, l_32, l_40, l_41, l_42, l_43, l_45, l_48, l_57, l_59, l_60, l_61, l_63, l_64, l_80, l_96, l_97, l_99, l_100, l_122, l_160, l_200, l_320, l_640, l_999, l_1000, l_1200, l_4000, l_99999, l_100000, l_100001, l_100002, l_100006, l_100010, l_252645135, l_858993459, l_1431655765, n_cl, n_lt, n_le, n_eq, n_in, n_add, n_mul, n_sub, n_div, n_mod, n_addneg, n_negl, n_nege, Nat.add_sub_cancel, d_ltT, d_ltF, d_leT, d_leF, d_eqT, d_eqF, ↓reduceIte, Nat.reduceLeDiff, Nat.reduceAdd, Nat.reduceMul, Nat.reduceSub, Nat.reduceLT, Nat.zero_add, Nat.add_zero, not_false_eq_true, pK_32, pK_33, pK_34, pK_35, pK_36, pK_37, pK_38, pK_39, pK_40, pK_41, pK_42, pK_43, pK_44, pR_32_0, pR_32_1, pR_32_2, pR_32_3, pR_32_4, pR_32_5, pR_32_6, pR_32_7, pR_32_8, pR_33_0, pR_33_1, pR_33_2, pR_33_3, pR_36_0, pR_36_1, pR_36_2, pR_36_3, pR_37_0, pR_37_1, pR_37_3, pR_37_4, pR_42_0, pR_42_3, pK_124, pK_125, pK_126, pK_127, pK_128, pK_129, pK_130, pK_131, pK_132, pK_133, pK_134, pR_124_0, pR_126_0, pR_128_0, pR_130_0, pR_134_0, pR_134_1, pK_45]
  have hC1 := p_CR_cs hC h3
  refine s_go (.inl rfl) hC1.2.2.2.2.2.2.2.1 h4 (wf_tw hW hk) (wf_rw hW) (wf_swf hW (wf_si hW hk)) (wf_way hW hk).1 (wf_way hW hk).2 fun I2 h5 h6 => ?_
  simp (disch := omega) only [q_tl_none, r7058_16, r7058_17, r7058_20, r7058_20n, va_rf_some, va_rf_none, cat_int, cat_ref, cat_null, cat_jk, q_cs_nil, q_cs_int, q_cs_ref, q_cs_long, q_tl_some, q_tl_none, nz_0, nz_1, nzn_0, nzn_1, nz_b, true_and, and_true, Nat.reduceLeDiff, Nat.reduceAdd, l_0, l_1, l_2, l_3, l_4, l_5, l_6, l_7, l_8, l_9, l_10, l_11, l_12, l_13, l_14, l_15, l_16, l_17, l_18, l_19, l_20, l_24, l_32, l_40, l_41, l_42, l_43, l_45, l_48, l_57, l_59, l_60, l_61, l_63, l_64, l_80, l_96, l_97, l_99, l_100, l_122, l_160, l_200, l_320, l_640, l_999, l_1000, l_1200, l_4000, l_99999, l_100000, l_100001, l_100002, l_100006, l_100010, l_252645135, l_858993459, l_1431655765, n_cl, n_lt, n_le, n_eq, n_in, n_add, n_mul, n_sub, n_div, n_mod, n_addneg, n_negl, n_nege, Nat.add_sub_cancel, d_ltT, d_ltF, d_leT, d_leF, d_eqT, d_eqF, ↓reduceIte, Nat.reduceLeDiff, Nat.reduceAdd, Nat.reduceMul, Nat.reduceSub, Nat.reduceLT, Nat.zero_add, Nat.add_zero, not_false_eq_true, pK_32, pK_33, pK_34, pK_35, pK_36, pK_37, pK_38, pK_39, pK_40, pK_41, pK_42, pK_43, pK_44, pR_32_0, pR_32_1, pR_32_2, pR_32_3, pR_32_4, pR_32_5, pR_32_6, pR_32_7, pR_32_8, pR_33_0, pR_33_1, pR_33_2, pR_33_3, pR_36_0, pR_36_1, pR_36_2, pR_36_3, pR_37_0, pR_37_1, pR_37_3, pR_37_4, pR_42_0, pR_42_3, pK_124, pK_125, pK_126, pK_127, pK_128, pK_129, pK_130, pK_131, pK_132, pK_133, pK_134, pR_124_0, pR_126_0, pR_128_0, pR_130_0, pR_134_0, pR_134_1]
  exact hQ I2 r1 b u v (p_cs_trans h3 ⟨fun a ha => h5.1 a (by omega), fun _ _ _ => rfl⟩) ⟨h5.2.2.1, h5.2.2.2⟩ (p_fa_fr (.inl rfl) h4 h5.1 h5.2.1) h6
end
