/-! the law answers yes -/
section
variable {L : Nat} {xs : Nat → Int32} {I : Nat → Nat → Int32} {R : Nat → Nat → Option Nat}
theorem i3_inv {I1 : Nat → Nat → Int32} (g : z_i2 xs I1) (h : z_i3 I) (gI : ∀ a, a < 135 → I a = I1 a) (r0 : R 35 0 = some 134) (r1 : R 134 0 = some 133) (r2 : R 134 1 = some 132) : z_inv L 179 R z_d0 I I :=
  ⟨i3_wf h, i3_CR g h gI r0 r1 r2, ⟨fun _ _ _ => rfl, fun _ _ => rfl⟩, fun i hi j => by
    rw [gI _ (by omega), g.1 _ (by omega)]
    unfold q_sI
    rw [if_neg (by omega), if_neg (by omega), if_neg (by omega), if_neg (by omega), if_pos (by omega), Nat.add_sub_cancel_left]⟩
end
theorem zK_032 {L : Nat} : q_nw (z_K L 32) 32 (7, 0) = z_K L 33 := zK_nw rfl
set_option maxRecDepth 10000 in
theorem law_allK {K L : Nat} {xs : Nat → Int32} {Q : Option Value → q_H → Prop} (hK : 48 ≤ K) (hL : L ≤ 384) (hQ : ∀ h, Q (some (.int (Int32.ofNat 1))) h) :
    q_wp (K + 12) 2000 16000 0 [.ref 2, q_jk, q_jk, q_jk] [] (q_sI xs, z_j, z_n, z_K L 32, 32) Q := by
  simp (disch := omega) only [r16000_0, r16000_3, r16000_4, q_mal, zj_nw, zn_nw, zK_032, nwI (sI_0 (xs := xs) (show 29 ≤ 32 by decide)), nwIn (sI_0 (xs := xs) (show 29 ≤ 32 by decide)), b_eq0, b_eq1, b_0eq, ite_not, not_true_eq_false, not_false_eq_true, ↓reduceIte, va_rf_some, va_rf_none, cat_int, cat_ref, cat_null, cat_jk, q_cs_nil, q_cs_int, q_cs_ref, q_cs_long, q_tl_some, q_tl_none, nz_0, nz_1, nzn_0, nzn_1, nz_b, true_and, and_true, Nat.reduceLeDiff, Nat.reduceAdd, l_0, l_1, l_2, l_3, l_4, l_5, l_6, l_7, l_8, l_9, l_10, l_11, l_12, l_13, l_14, l_15, l_16, l_17, l_18, l_19, l_20, l_24, l_32, l_40, l_41, l_42, l_43, l_45, l_48, l_57, l_59, l_60, l_61, l_63, l_64, l_80, l_96, l_97, l_99, l_100, l_122, l_160, l_200, l_320, l_640, l_999, l_1000, l_1200, l_4000, l_99999, l_100000, l_100001, l_100002, l_100006, l_100010, l_252645135, l_858993459, l_1431655765, n_cl, n_lt, n_le, n_eq, n_in, n_add, n_mul, n_sub, n_div, n_mod, n_addneg, n_negl, n_nege, Nat.add_sub_cancel, d_ltT, d_ltF, d_leT, d_leF, d_eqT, d_eqF, ↓reduceIte, Nat.reduceLeDiff, Nat.reduceAdd, Nat.reduceMul, Nat.reduceSub, Nat.reduceLT, Nat.zero_add, Nat.add_zero, not_false_eq_true, and_self]
  refine c_new hK fun I1 R1 g1 e1 e2 r0 r1 r2 => ?_
  simp (disch := omega) only [q_tl_none, List.cons_append, List.nil_append, r16000_7, r16000_7n, r16000_8, r16000_11, r16000_12, q_mal, zj_nw, zK_135, nwI (g1.2.1 135 (by decide)), nwIn (g1.2.1 135 (by decide)), nwR (e2 135 (by decide)), b_eq0, b_eq1, b_0eq, ite_not, not_true_eq_false, not_false_eq_true, ↓reduceIte, va_rf_some, va_rf_none, cat_int, cat_ref, cat_null, cat_jk, q_cs_nil, q_cs_int, q_cs_ref, q_cs_long, q_tl_some, q_tl_none, nz_0, nz_1, nzn_0, nzn_1, nz_b, true_and, and_true, Nat.reduceLeDiff, Nat.reduceAdd, l_0, l_1, l_2, l_3, l_4, l_5, l_6, l_7, l_8, l_9, l_10, l_11, l_12, l_13, l_14, l_15, l_16, l_17, l_18, l_19, l_20, l_24, l_32, l_40, l_41, l_42, l_43, l_45, l_48, l_57, l_59, l_60, l_61, l_63, l_64, l_80, l_96, l_97, l_99, l_100, l_122, l_160, l_200, l_320, l_640, l_999, l_1000, l_1200, l_4000, l_99999, l_100000, l_100001, l_100002, l_100006, l_100010, l_252645135, l_858993459, l_1431655765, n_cl, n_lt, n_le, n_eq, n_in, n_add, n_mul, n_sub, n_div, n_mod, n_addneg, n_negl, n_nege, Nat.add_sub_cancel, d_ltT, d_ltF, d_leT, d_leF, d_eqT, d_eqF, ↓reduceIte, Nat.reduceLeDiff, Nat.reduceAdd, Nat.reduceMul, Nat.reduceSub, Nat.reduceLT, Nat.zero_add, Nat.add_zero, not_false_eq_true, and_self]
  refine m_new (d := K + 8) g1.2.1 e2 fun I2 J2 R2 g2 gI gJ gR e3 => ?_
  have eh : ((I2, J2, R2, z_K L 179, 179) : q_H) = p_h L I2 R2 z_d0 179 := by
    have eR : p_R R2 = R2 := pR_eq (fun e he => by rw [gR _ (zL1_b e he)]; exact e1 e he) e3
    have eJ : J2 = p_J := funext fun a => funext fun k => gJ a k
    unfold p_h
    rw [eR, eJ, zK_179]
  rw [eh]
  simp (disch := omega) only [q_tl_none, List.cons_append, List.nil_append, r16000_15, r16000_15n, r16000_16, r16000_17, b_eq0, b_eq1, b_0eq, ite_not, not_true_eq_false, not_false_eq_true, ↓reduceIte, va_rf_some, va_rf_none, cat_int, cat_ref, cat_null, cat_jk, q_cs_nil, q_cs_int, q_cs_ref, q_cs_long, q_tl_some, q_tl_none, nz_0, nz_1, nzn_0, nzn_1, nz_b, true_and, and_true, Nat.reduceLeDiff, Nat.reduceAdd, l_0, l_1, l_2, l_3, l_4, l_5, l_6, l_7, l_8, l_9, l_10, l_11, l_12, l_13, l_14, l_15, l_16, l_17, l_18, l_19, l_20, l_24, l_32, l_40, l_41, l_42, l_43, l_45, l_48, l_57, l_59, l_60, l_61, l_63, l_64, l_80, l_96, l_97, l_99, l_100, l_122, l_160, l_200, l_320, l_640, l_999, l_1000, l_1200, l_4000, l_99999, l_100000, l_100001, l_100002, l_100006, l_100010, l_252645135, l_858993459, l_1431655765, n_cl, n_lt, n_le, n_eq, n_in, n_add, n_mul, n_sub, n_div, n_mod, n_addneg, n_negl, n_nege, Nat.add_sub_cancel, d_ltT, d_ltF, d_leT, d_leF, d_eqT, d_eqF, ↓reduceIte, Nat.reduceLeDiff, Nat.reduceAdd, Nat.reduceMul, Nat.reduceSub, Nat.reduceLT, Nat.zero_add, Nat.add_zero, not_false_eq_true, and_self]
  refine law_loop hK hL hQ 64 0 _ 179 R2 z_d0 I2 I2 (by omega) (by decide) (by decide) (i3_inv g1 g2 gI ?_ ?_ ?_)
  · rw [gR 35 (by decide)]; exact r0
  · rw [gR 134 (by decide)]; exact r1
  · rw [gR 134 (by decide)]; exact r2
theorem law_all {L : Nat} {xs : Nat → Int32} (hL : L ≤ 384) : q_wp 100 2000 16000 0 [.ref 2, q_jk, q_jk, q_jk] [] (q_h0 L xs) (fun r _ => r = some (.int 1)) := by
  have e : q_h0 L xs = (q_sI xs, z_j, z_n, z_K L 32, 32) := by
    unfold q_h0
    rw [sK_32]
    rfl
  rw [e]
  exact law_allK (K := 88) (by decide) hL fun _ => rfl
