/-! the class reads a token: advance -/
/-- what reading a token may change: at, token, place, number -/
def y_f (I I' : Nat → Nat → Int32) : Prop := (∀ a, a ≠ 42 → I' a = I a) ∧ ∀ k, ¬(5 ≤ k ∧ k ≤ 8) → I' 42 k = I 42 k
def y_f5 (I I' : Nat → Nat → Int32) : Prop := (∀ a, a ≠ 42 → I' a = I a) ∧ ∀ k, k ≠ 5 → k ≠ 8 → I' 42 k = I 42 k
theorem f5_up {I I' : Nat → Nat → Int32} {v : Int32} {k : Nat} (h : y_f5 I I') (hk : k = 5 ∨ k = 8) : y_f5 I (q_up I' 42 k v) :=
  ⟨fun a ha => (q_up_fa ha).trans (h.1 a ha), fun j j1 j2 => (q_up_k (by omega)).trans (h.2 j j1 j2)⟩
theorem xT_f {I I' : Nat → Nat → Int32} {B : Nat → Nat} {N : Nat} (h : x_T I B N) (h1 : I' 42 1 = I 42 1) (h43 : I' 43 = I 43) : x_T I' B N :=
  ⟨h1.trans h.1, h.2.1, fun k hk => by rw [h43]; exact h.2.2 k hk⟩
theorem xT_f5 {I I' : Nat → Nat → Int32} {B : Nat → Nat} {N : Nat} (h : x_T I B N) (h' : y_f5 I I') : x_T I' B N := xT_f h (h'.2 1 (by decide) (by decide)) (h'.1 43 (by decide))
/-- digits as the class sums them up -/
def y_nv : List Nat → Int32
  | [] => 0
  | a :: t => Int32.ofNat 10 * y_nv t + Int32.ofNat a - Int32.ofNat 48
theorem ynv_eq : ∀ {l : List Nat}, (∀ a, a ∈ l → 48 ≤ a ∧ a ≤ 57) → y_nv l = Int32.ofNat (x_nm l)
  | [], _ => rfl
  | a :: t, h => by
    have h1 := h a (List.mem_cons_self ..)
    show Int32.ofNat 10 * y_nv t + Int32.ofNat a - Int32.ofNat 48 = Int32.ofNat (10 * x_nm t + (a - 48))
    rw [ynv_eq fun b hb => h b (List.mem_cons_of_mem _ hb), n_mul, n_add, n_sub (by omega), show 10 * x_nm t + a - 48 = 10 * x_nm t + (a - 48) by omega]
section
variable {d c L n : Nat} {Q : Option Value → q_H → Prop} {I : Nat → Nat → Int32} {zJ : Nat → Nat → Int64} {zR : Nat → Nat → Option Nat} {zK : Nat → Nat × Nat} {B : Nat → Nat} {N : Nat}
theorem s_skip (hz : y_z zR zK) (hT : x_T I B N) : ∀ (m p : Nat) (I' : Nat → Nat → Int32), m = N - p → p ≤ N → y_f5 I I' → I' 42 5 = Int32.ofNat p →
    (∀ I'', y_f5 I I'' → I'' 42 5 = Int32.ofNat (x_w (x_cb B N) N p) → q_wp (d + 1) c 3010 52 [.ref 42] [] (z_h zJ zR zK I'' n) Q) → q_wp (d + 1) c 3010 0 [.ref 42] [] (z_h zJ zR zK I' n) Q := by
  intro m
  induction m with
  | zero =>
    intro p I' hm hp hf h5 hQ
    have e1 := (xT_f5 hT hf).1
    have hN := hT.2.1
    rw [r3010_0]
    simp (disch := omega) only [r3010_1, r3010_4, r3010_5, r3010_8, e1, h5, va_rf_some, va_rf_none, cat_int, cat_ref, cat_null, cat_jk, q_cs_nil, q_cs_int, q_cs_ref, q_cs_long, q_tl_some, q_tl_none, nz_0, nz_1, nzn_0, nzn_1, nz_b, true_and, and_true, Nat.reduceLeDiff, Nat.reduceAdd, l_0, l_1, l_2, l_3, l_4, l_5, l_6, l_7, l_8, l_9, l_10, l_11, l_12, l_13, l_14, l_15, l_16, l_17, l_18, l_19, l_20, l_24, l_32, l_40, l_41, l_42, l_43, l_45, l_48, l_57, l_59, l_60, l_61, l_63, l_64, l_80, l_96, l_97, l_99, l_100, l_122, l_160, l_200, l_320, l_640, l_999, l_1000, l_1200, l_4000, l_99999, l_100000, l_100001, l_100002, l_100006, l_100010, l_252645135, l_858993459, l_1431655765, n_cl, n_lt, n_le, n_eq, n_in, n_add, n_mul, n_sub, n_div, n_mod, n_addneg, n_negl, n_nege, Nat.add_sub_cancel, d_ltT, d_ltF, d_leT, d_leF, d_eqT, d_eqF, ↓reduceIte, Nat.reduceLeDiff, Nat.reduceAdd, Nat.reduceMul, Nat.reduceSub, Nat.reduceLT, Nat.zero_add, Nat.add_zero, not_false_eq_true, hz.1, hz.2.1, hz.2.2.1, hz.2.2.2.1, hz.2.2.2.2.1]
    refine hQ I' hf ?_
    rw [xw_eq xcb, if_neg fun e => by have := xcb e; omega]
    exact h5
  | succ m ih =>
    intro p I' hm hp hf h5 hQ
    obtain ⟨e1, hN, hB⟩ := xT_f5 hT hf
    obtain ⟨b1, b2⟩ := hB p (by omega)
    rw [r3010_0]
    by_cases hb : B p = 32 ∨ B p = 10
    · have hn := ih (p + 1) (q_up I' 42 5 (Int32.ofNat (p + 1))) (by omega) (by omega) (f5_up hf (.inl rfl)) q_up_same fun I'' g1 g2 => hQ I'' g1 (by rw [xw_eq xcb, if_pos (show x_cb B N p = true from decide_eq_true ⟨by omega, hb⟩)]; exact g2)
      rw [by_lo (by omega)] at b2
      rcases hb with hb | hb
      · rw [hb] at b2
        simp (disch := omega) only [r3010_1, r3010_4, r3010_5, r3010_8, r3010_11, r3010_12, r3010_15, r3010_16, r3010_19, r3010_20, r3010_22, r3010_25, r3010_26, r3010_29, r3010_30, r3010_33, r3010_34, r3010_36, r3010_39, r3010_40, r3010_41, r3010_44, r3010_45, r3010_46, r3010_49, e1, h5, b2, va_rf_some, va_rf_none, cat_int, cat_ref, cat_null, cat_jk, q_cs_nil, q_cs_int, q_cs_ref, q_cs_long, q_tl_some, q_tl_none, nz_0, nz_1, nzn_0, nzn_1, nz_b, true_and, and_true, Nat.reduceLeDiff, Nat.reduceAdd, l_0, l_1, l_2, l_3, l_4, l_5, l_6, l_7, l_8, l_9, l_10, l_11, l_12, l_13, l_14, l_15, l_16, l_17, l_18, l_19, l_20, l_24, l_32, l_40, l_41, l_42, l_43, l_45, l_48, l_57, l_59, l_60, l_61, l_63, l_64, l_80, l_96, l_97, l_99, l_100, l_122, l_160, l_200, l_320, l_640, l_999, l_1000, l_1200, l_4000, l_99999, l_100000, l_100001, l_100002, l_100006, l_100010, l_252645135, l_858993459, l_1431655765, n_cl, n_lt, n_le, n_eq, n_in, n_add, n_mul, n_sub, n_div, n_mod, n_addneg, n_negl, n_nege, Nat.add_sub_cancel, d_ltT, d_ltF, d_leT, d_leF, d_eqT, d_eqF, ↓reduceIte, Nat.reduceLeDiff, Nat.reduceAdd, Nat.reduceMul, Nat.reduceSub, Nat.reduceLT, Nat.zero_add, Nat.add_zero, not_false_eq_true, hz.1, hz.2.1, hz.2.2.1, hz.2.2.2.1, hz.2.2.2.2.1]
        exact hn
      · rw [hb] at b2
        simp (disch := omega) only [r3010_1, r3010_4, r3010_5, r3010_8, r3010_11, r3010_12, r3010_15, r3010_16, r3010_19, r3010_20, r3010_22, r3010_25, r3010_26, r3010_29, r3010_30, r3010_33, r3010_34, r3010_36, r3010_39, r3010_40, r3010_41, r3010_44, r3010_45, r3010_46, r3010_49, e1, h5, b2, va_rf_some, va_rf_none, cat_int, cat_ref, cat_null, cat_jk, q_cs_nil, q_cs_int, q_cs_ref, q_cs_long, q_tl_some, q_tl_none, nz_0, nz_1, nzn_0, nzn_1, nz_b, true_and, and_true, Nat.reduceLeDiff, Nat.reduceAdd, l_0, l_1, l_2, l_3, l_4, l_5, l_6, l_7, l_8, l_9, l_10, l_11, l_12, l_13, l_14, l_15, l_16, l_17, l_18, l_19, l_20, l_24, l_32, l_40, l_41, l_42, l_43, l_45, l_48, l_57, l_59, l_60, l_61, l_63, l_64, l_80, l_96, l_97, l_99, l_100, l_122, l_160, l_200, l_320, l_640, l_999, l_1000, l_1200, l_4000, l_99999, l_100000, l_100001, l_100002, l_100006, l_100010, l_252645135, l_858993459, l_1431655765, n_cl, n_lt, n_le, n_eq, n_in, n_add, n_mul, n_sub, n_div, n_mod, n_addneg, n_negl, n_nege, Nat.add_sub_cancel, d_ltT, d_ltF, d_leT, d_leF, d_eqT, d_eqF, ↓reduceIte, Nat.reduceLeDiff, Nat.reduceAdd, Nat.reduceMul, Nat.reduceSub, Nat.reduceLT, Nat.zero_add, Nat.add_zero, not_false_eq_true, hz.1, hz.2.1, hz.2.2.1, hz.2.2.2.1, hz.2.2.2.2.1]
        exact hn
    · have e32 : ((Int32.ofNat (B p)).toInt8.toInt32 = Int32.ofNat 32) = False := by
        by_cases h : B p < 128
        · rw [by_lo h, n_eq (by omega) (by omega)]; exact eq_false (by omega)
        · exact neg_eq (by_hi (by omega) b1) (by omega)
      have e10 : ((Int32.ofNat (B p)).toInt8.toInt32 = Int32.ofNat 10) = False := by
        by_cases h : B p < 128
        · rw [by_lo h, n_eq (by omega) (by omega)]; exact eq_false (by omega)
        · exact neg_eq (by_hi (by omega) b1) (by omega)
      simp (disch := omega) only [r3010_1, r3010_4, r3010_5, r3010_8, r3010_11, r3010_12, r3010_15, r3010_16, r3010_19, r3010_20, r3010_22, r3010_25, r3010_26, r3010_29, r3010_30, r3010_33, r3010_34, r3010_36, e1, h5, b2, e32, e10, va_rf_some, va_rf_none, cat_int, cat_ref, cat_null, cat_jk, q_cs_nil, q_cs_int, q_cs_ref, q_cs_long, q_tl_some, q_tl_none, nz_0, nz_1, nzn_0, nzn_1, nz_b, true_and, and_true, Nat.reduceLeDiff, Nat.reduceAdd, l_0, l_1, l_2, l_3, l_4, l_5, l_6, l_7, l_8, l_9, l_10, l_11, l_12, l_13, l_14, l_15, l_16, l_17, l_18, l_19, l_20, l_24, l_32, l_40, l_41, l_42, l_43, l_45, l_48, l_57, l_59, l_60, l_61, l_63, l_64, l_80, l_96, l_97, l_99, l_100, l_122, l_160, l_200, l_320, l_640, l_999, l_1000, l_1200, l_4000, l_99999, l_100000, l_100001, l_100002, l_100006, l_100010, l_252645135, l_858993459, l_1431655765, n_cl, n_lt, n_le, n_eq, n_in, n_add, n_mul, n_sub, n_div, n_mod, n_addneg, n_negl, n_nege, Nat.add_sub_cancel, d_ltT, d_ltF, d_leT, d_leF, d_eqT, d_eqF, ↓reduceIte, Nat.reduceLeDiff, Nat.reduceAdd, Nat.reduceMul, Nat.reduceSub, Nat.reduceLT, Nat.zero_add, Nat.add_zero, not_false_eq_true, hz.1, hz.2.1, hz.2.2.1, hz.2.2.2.1, hz.2.2.2.2.1]
      refine hQ I' hf ?_
      rw [xw_eq xcb, if_neg fun e => hb (of_decide_eq_true e).2]
      exact h5
theorem s_lets (hz : y_z zR zK) (hT : x_T I B N) : ∀ (m p : Nat) (I' : Nat → Nat → Int32), m = N - p → p ≤ N → y_f5 I I' → I' 42 5 = Int32.ofNat p →
    (∀ I'', y_f5 I I'' → I'' 42 5 = Int32.ofNat (x_w (x_cl B N) N p) → q_wp (d + 2) c 3010 134 [.ref 42] [] (z_h zJ zR zK I'' n) Q) → q_wp (d + 2) c 3010 95 [.ref 42] [] (z_h zJ zR zK I' n) Q := by
  intro m
  induction m with
  | zero =>
    intro p I' hm hp hf h5 hQ
    have e1 := (xT_f5 hT hf).1
    have hN := hT.2.1
    rw [r3010_95]
    simp (disch := omega) only [r3010_96, r3010_99, r3010_100, r3010_103, e1, h5, va_rf_some, va_rf_none, cat_int, cat_ref, cat_null, cat_jk, q_cs_nil, q_cs_int, q_cs_ref, q_cs_long, q_tl_some, q_tl_none, nz_0, nz_1, nzn_0, nzn_1, nz_b, true_and, and_true, Nat.reduceLeDiff, Nat.reduceAdd, l_0, l_1, l_2, l_3, l_4, l_5, l_6, l_7, l_8, l_9, l_10, l_11, l_12, l_13, l_14, l_15, l_16, l_17, l_18, l_19, l_20, l_24, l_32, l_40, l_41, l_42, l_43, l_45, l_48, l_57, l_59, l_60, l_61, l_63, l_64, l_80, l_96, l_97, l_99, l_100, l_122, l_160, l_200, l_320, l_640, l_999, l_1000, l_1200, l_4000, l_99999, l_100000, l_100001, l_100002, l_100006, l_100010, l_252645135, l_858993459, l_1431655765, n_cl, n_lt, n_le, n_eq, n_in, n_add, n_mul, n_sub, n_div, n_mod, n_addneg, n_negl, n_nege, Nat.add_sub_cancel, d_ltT, d_ltF, d_leT, d_leF, d_eqT, d_eqF, ↓reduceIte, Nat.reduceLeDiff, Nat.reduceAdd, Nat.reduceMul, Nat.reduceSub, Nat.reduceLT, Nat.zero_add, Nat.add_zero, not_false_eq_true, hz.1, hz.2.1, hz.2.2.1, hz.2.2.2.1, hz.2.2.2.2.1]
    refine hQ I' hf ?_
    rw [xw_eq xcl, if_neg fun e => by have := xcl e; omega]
    exact h5
  | succ m ih =>
    intro p I' hm hp hf h5 hQ
    obtain ⟨e1, hN, hB⟩ := xT_f5 hT hf
    obtain ⟨b1, b2⟩ := hB p (by omega)
    rw [r3010_95]
    by_cases hb : 97 ≤ B p ∧ B p ≤ 122
    · have hn := ih (p + 1) (q_up I' 42 5 (Int32.ofNat (p + 1))) (by omega) (by omega) (f5_up hf (.inl rfl)) q_up_same fun I'' g1 g2 => hQ I'' g1 (by rw [xw_eq xcl, if_pos (show x_cl B N p = true from decide_eq_true ⟨by omega, hb⟩)]; exact g2)
      simp (disch := omega) only [r3010_96, r3010_99, r3010_100, r3010_103, r3010_106, r3010_107, r3010_110, r3010_111, r3010_114, r3010_115, r3010_118, r3010_121, r3010_122, r3010_123, r3010_126, r3010_127, r3010_128, r3010_131, e1, h5, b2, s_isLetter b1, hb, and_self, va_rf_some, va_rf_none, cat_int, cat_ref, cat_null, cat_jk, q_cs_nil, q_cs_int, q_cs_ref, q_cs_long, q_tl_some, q_tl_none, nz_0, nz_1, nzn_0, nzn_1, nz_b, true_and, and_true, Nat.reduceLeDiff, Nat.reduceAdd, b_eq0, b_eq1, b_0eq, ite_not, not_true_eq_false, not_false_eq_true, ↓reduceIte, l_0, l_1, l_2, l_3, l_4, l_5, l_6, l_7, l_8, l_9, l_10, l_11, l_12, l_13, l_14, l_15, l_16, l_17, l_18, l_19, l_20, l_24, l_32, l_40, l_41, l_42, l_43, l_45, l_48, l_57, l_59, l_60, l_61, l_63, l_64, l_80, l_96, l_97, l_99, l_100, l_122, l_160, l_200, l_320, l_640, l_999, l_1000, l_1200, l_4000, l_99999, l_100000, l_100001, l_100002, l_100006, l_100010, l_252645135, l_858993459, l_1431655765, n_cl, n_lt, n_le, n_eq, n_in, n_add, n_mul, n_sub, n_div, n_mod, n_addneg, n_negl, n_nege, Nat.add_sub_cancel, d_ltT, d_ltF, d_leT, d_leF, d_eqT, d_eqF, ↓reduceIte, Nat.reduceLeDiff, Nat.reduceAdd, Nat.reduceMul, Nat.reduceSub, Nat.reduceLT, Nat.zero_add, Nat.add_zero, not_false_eq_true, hz.1, hz.2.1, hz.2.2.1, hz.2.2.2.1, hz.2.2.2.2.1]
      exact hn
    · simp (disch := omega) only [r3010_96, r3010_99, r3010_100, r3010_103, r3010_106, r3010_107, r3010_110, r3010_111, r3010_114, r3010_115, r3010_118, e1, h5, b2, s_isLetter b1, if_neg hb, va_rf_some, va_rf_none, cat_int, cat_ref, cat_null, cat_jk, q_cs_nil, q_cs_int, q_cs_ref, q_cs_long, q_tl_some, q_tl_none, nz_0, nz_1, nzn_0, nzn_1, nz_b, true_and, and_true, Nat.reduceLeDiff, Nat.reduceAdd, l_0, l_1, l_2, l_3, l_4, l_5, l_6, l_7, l_8, l_9, l_10, l_11, l_12, l_13, l_14, l_15, l_16, l_17, l_18, l_19, l_20, l_24, l_32, l_40, l_41, l_42, l_43, l_45, l_48, l_57, l_59, l_60, l_61, l_63, l_64, l_80, l_96, l_97, l_99, l_100, l_122, l_160, l_200, l_320, l_640, l_999, l_1000, l_1200, l_4000, l_99999, l_100000, l_100001, l_100002, l_100006, l_100010, l_252645135, l_858993459, l_1431655765, n_cl, n_lt, n_le, n_eq, n_in, n_add, n_mul, n_sub, n_div, n_mod, n_addneg, n_negl, n_nege, Nat.add_sub_cancel, d_ltT, d_ltF, d_leT, d_leF, d_eqT, d_eqF, ↓reduceIte, Nat.reduceLeDiff, Nat.reduceAdd, Nat.reduceMul, Nat.reduceSub, Nat.reduceLT, Nat.zero_add, Nat.add_zero, not_false_eq_true, hz.1, hz.2.1, hz.2.2.1, hz.2.2.2.1, hz.2.2.2.2.1]
      refine hQ I' hf ?_
      rw [xw_eq xcl, if_neg fun e => hb (of_decide_eq_true e).2]
      exact h5
theorem s_digs (hz : y_z zR zK) (hT : x_T I B N) {s : Nat} : ∀ (m k : Nat) (I' : Nat → Nat → Int32), m = N - (s + k) → s + k ≤ N → y_f5 I I' → I' 42 5 = Int32.ofNat (s + k) → I' 42 8 = y_nv (x_ls B s k) →
    (∀ I'' e, y_f5 I I'' → x_w (x_cd B N) N (s + k) = s + e → I'' 42 5 = Int32.ofNat (s + e) → I'' 42 8 = y_nv (x_ls B s e) → q_wp (d + 2) c 3010 228 [.ref 42] [] (z_h zJ zR zK I'' n) Q) → q_wp (d + 2) c 3010 165 [.ref 42] [] (z_h zJ zR zK I' n) Q := by
  intro m
  induction m with
  | zero =>
    intro k I' hm hp hf h5 h8 hQ
    have e1 := (xT_f5 hT hf).1
    have hN := hT.2.1
    rw [r3010_165]
    simp (disch := omega) only [r3010_166, r3010_169, r3010_170, r3010_173, e1, h5, va_rf_some, va_rf_none, cat_int, cat_ref, cat_null, cat_jk, q_cs_nil, q_cs_int, q_cs_ref, q_cs_long, q_tl_some, q_tl_none, nz_0, nz_1, nzn_0, nzn_1, nz_b, true_and, and_true, Nat.reduceLeDiff, Nat.reduceAdd, l_0, l_1, l_2, l_3, l_4, l_5, l_6, l_7, l_8, l_9, l_10, l_11, l_12, l_13, l_14, l_15, l_16, l_17, l_18, l_19, l_20, l_24, l_32, l_40, l_41, l_42, l_43, l_45, l_48, l_57, l_59, l_60, l_61, l_63, l_64, l_80, l_96, l_97, l_99, l_100, l_122, l_160, l_200, l_320, l_640, l_999, l_1000, l_1200, l_4000, l_99999, l_100000, l_100001, l_100002, l_100006, l_100010, l_252645135, l_858993459, l_1431655765, n_cl, n_lt, n_le, n_eq, n_in, n_add, n_mul, n_sub, n_div, n_mod, n_addneg, n_negl, n_nege, Nat.add_sub_cancel, d_ltT, d_ltF, d_leT, d_leF, d_eqT, d_eqF, ↓reduceIte, Nat.reduceLeDiff, Nat.reduceAdd, Nat.reduceMul, Nat.reduceSub, Nat.reduceLT, Nat.zero_add, Nat.add_zero, not_false_eq_true, hz.1, hz.2.1, hz.2.2.1, hz.2.2.2.1, hz.2.2.2.2.1]
    refine hQ I' k hf ?_ h5 h8
    rw [xw_eq xcd, if_neg fun e => by have := xcd e; omega]
  | succ m ih =>
    intro k I' hm hp hf h5 h8 hQ
    obtain ⟨e1, hN, hB⟩ := xT_f5 hT hf
    obtain ⟨b1, b2⟩ := hB (s + k) (by omega)
    rw [r3010_165]
    by_cases hb : 48 ≤ B (s + k) ∧ B (s + k) ≤ 57
    · have hn := ih (k + 1) (q_up (q_up I' 42 8 (y_nv (x_ls B s (k + 1)))) 42 5 (Int32.ofNat (s + k + 1))) (by omega) (by omega) (f5_up (f5_up hf (.inr rfl)) (.inl rfl)) q_up_same (by rw [q_up_k (by decide), q_up_same]) fun I'' e g1 g2 g3 g4 => hQ I'' e g1 (by rw [xw_eq xcd, if_pos (show x_cd B N (s + k) = true from decide_eq_true ⟨by omega, hb⟩)]; exact g2) g3 g4
      have l2 : (Int32.ofNat (B (s + k))).toInt8.toInt32 = Int32.ofNat (B (s + k)) := by_lo (by omega)
      simp (disch := omega) only [r3010_166, r3010_169, r3010_170, r3010_173, r3010_176, r3010_177, r3010_180, r3010_181, r3010_184, r3010_185, r3010_188, r3010_191, r3010_192, r3010_194, r3010_195, r3010_198, r3010_199, r3010_200, r3010_203, r3010_204, r3010_207, r3010_208, r3010_209, r3010_211, r3010_212, r3010_215, r3010_216, r3010_217, r3010_220, r3010_221, r3010_222, r3010_225, e1, h5, h8, b2, s_isDigit b1, hb, q_up_k, and_self, va_rf_some, va_rf_none, cat_int, cat_ref, cat_null, cat_jk, q_cs_nil, q_cs_int, q_cs_ref, q_cs_long, q_tl_some, q_tl_none, nz_0, nz_1, nzn_0, nzn_1, nz_b, true_and, and_true, Nat.reduceLeDiff, Nat.reduceAdd, b_eq0, b_eq1, b_0eq, ite_not, not_true_eq_false, not_false_eq_true, ↓reduceIte, l_0, l_1, l_2, l_3, l_4, l_5, l_6, l_7, l_8, l_9, l_10, l_11, l_12, l_13, l_14, l_15, l_16, l_17, l_18, l_19, l_20, l_24, l_32, l_40, l_41, l_42, l_43, l_45, l_48, l_57, l_59, l_60, l_61, l_63, l_64, l_80, l_96, l_97, l_99, l_100, l_122, l_160, l_200, l_320, l_640, l_999, l_1000, l_1200, l_4000, l_99999, l_100000, l_100001, l_100002, l_100006, l_100010, l_252645135, l_858993459, l_1431655765, n_cl, n_lt, n_in, d_ltT, d_ltF, d_leT, d_leF, n_le, n_add, d_eqF, d_eqT, ↓reduceIte, not_false_eq_true, hz.1, hz.2.1, hz.2.2.1, hz.2.2.2.1, hz.2.2.2.2.1]
      rw [l2]
      exact hn
    · simp (disch := omega) only [r3010_166, r3010_169, r3010_170, r3010_173, r3010_176, r3010_177, r3010_180, r3010_181, r3010_184, r3010_185, r3010_188, e1, h5, b2, s_isDigit b1, if_neg hb, va_rf_some, va_rf_none, cat_int, cat_ref, cat_null, cat_jk, q_cs_nil, q_cs_int, q_cs_ref, q_cs_long, q_tl_some, q_tl_none, nz_0, nz_1, nzn_0, nzn_1, nz_b, true_and, and_true, Nat.reduceLeDiff, Nat.reduceAdd, l_0, l_1, l_2, l_3, l_4, l_5, l_6, l_7, l_8, l_9, l_10, l_11, l_12, l_13, l_14, l_15, l_16, l_17, l_18, l_19, l_20, l_24, l_32, l_40, l_41, l_42, l_43, l_45, l_48, l_57, l_59, l_60, l_61, l_63, l_64, l_80, l_96, l_97, l_99, l_100, l_122, l_160, l_200, l_320, l_640, l_999, l_1000, l_1200, l_4000, l_99999, l_100000, l_100001, l_100002, l_100006, l_100010, l_252645135, l_858993459, l_1431655765, n_cl, n_lt, n_le, n_eq, n_in, n_add, n_mul, n_sub, n_div, n_mod, n_addneg, n_negl, n_nege, Nat.add_sub_cancel, d_ltT, d_ltF, d_leT, d_leF, d_eqT, d_eqF, ↓reduceIte, Nat.reduceLeDiff, Nat.reduceAdd, Nat.reduceMul, Nat.reduceSub, Nat.reduceLT, Nat.zero_add, Nat.add_zero, not_false_eq_true, hz.1, hz.2.1, hz.2.2.1, hz.2.2.2.1, hz.2.2.2.2.1]
      refine hQ I' k hf ?_ h5 h8
      rw [xw_eq xcd, if_neg fun e => hb (of_decide_eq_true e).2]
theorem s_adv (hz : y_z zR zK) (hT : x_T I B N) (hS : x_S I) {p : Nat} (hp : p ≤ N) (h5 : I 42 5 = Int32.ofNat p)
    (hQ : ∀ I', y_f I I' → I' 42 5 = Int32.ofNat (x_tk B N p).2 → I' 42 6 = x_ct (x_tk B N p).1.1 (x_tk B N p).1.2.1 → I' 42 7 = Int32.ofNat (x_tk B N p).1.2.2 → ((x_tk B N p).1.1 = 1 → I' 42 8 = Int32.ofNat (x_tk B N p).1.2.1) → Q none (z_h zJ zR zK I' n)) :
    q_wp (d + 8) c 3010 0 [.ref 42] [] (z_h zJ zR zK I n) Q := by
  have hN := hT.2.1
  refine s_skip hz hT (N - p) p I rfl hp ⟨fun _ _ => rfl, fun _ _ _ => rfl⟩ h5 fun I1 f1 g5 => ?_
  obtain ⟨s1, s2⟩ := xsk_b B hp
  unfold x_tk at hQ
  generalize x_w (x_cb B N) N p = s at s1 s2 g5 hQ
  have e1 := (xT_f5 hT f1).1
  by_cases h0 : N ≤ s
  · simp only [if_pos h0] at hQ
    simp (disch := omega) only [r3010_52, r3010_53, r3010_54, r3010_57, r3010_60, r3010_61, r3010_64, r3010_65, r3010_68, r3010_71, r3010_72, r3010_74, r3010_77, r3010_278, e1, g5, q_up_k, va_rf_some, va_rf_none, cat_int, cat_ref, cat_null, cat_jk, q_cs_nil, q_cs_int, q_cs_ref, q_cs_long, q_tl_some, q_tl_none, nz_0, nz_1, nzn_0, nzn_1, nz_b, true_and, and_true, Nat.reduceLeDiff, Nat.reduceAdd, l_0, l_1, l_2, l_3, l_4, l_5, l_6, l_7, l_8, l_9, l_10, l_11, l_12, l_13, l_14, l_15, l_16, l_17, l_18, l_19, l_20, l_24, l_32, l_40, l_41, l_42, l_43, l_45, l_48, l_57, l_59, l_60, l_61, l_63, l_64, l_80, l_96, l_97, l_99, l_100, l_122, l_160, l_200, l_320, l_640, l_999, l_1000, l_1200, l_4000, l_99999, l_100000, l_100001, l_100002, l_100006, l_100010, l_252645135, l_858993459, l_1431655765, n_cl, n_lt, n_le, n_eq, n_in, n_add, n_mul, n_sub, n_div, n_mod, n_addneg, n_negl, n_nege, Nat.add_sub_cancel, d_ltT, d_ltF, d_leT, d_leF, d_eqT, d_eqF, ↓reduceIte, Nat.reduceLeDiff, Nat.reduceAdd, Nat.reduceMul, Nat.reduceSub, Nat.reduceLT, Nat.zero_add, Nat.add_zero, not_false_eq_true, hz.1, hz.2.1, hz.2.2.1, hz.2.2.2.1, hz.2.2.2.2.1]
    refine hQ _ ⟨fun a ha => ?_, fun k hk => ?_⟩ ?_ ?_ ?_ fun h => absurd (show 0 = 1 from h) (by decide)
    · rw [q_up_fa ha, q_up_fa ha]; exact f1.1 a ha
    · rw [q_up_k (by omega), q_up_k (by omega)]; exact f1.2 k (by omega) (by omega)
    · rw [q_up_k (by decide), q_up_k (by decide)]; exact g5
    · exact q_up_same
    · rw [q_up_k (by decide), q_up_same]
  · simp only [if_neg h0] at hQ
    obtain ⟨b1, b2⟩ := hT.2.2 s (by omega)
    have b2' : I1 43 s = (Int32.ofNat (B s)).toInt8.toInt32 := by rw [f1.1 43 (by decide)]; exact b2
    by_cases h1 : 97 ≤ B s ∧ B s ≤ 122
    · simp only [if_pos h1] at hQ
      simp (disch := omega) only [r3010_52, r3010_53, r3010_54, r3010_57, r3010_60, r3010_61, r3010_64, r3010_65, r3010_68, r3010_71, r3010_72, r3010_74, r3010_77, r3010_80, r3010_81, r3010_84, r3010_85, r3010_88, r3010_89, r3010_92, e1, g5, b2', s_isLetter b1, h1, q_up_k, q_up_a, and_self, va_rf_some, va_rf_none, cat_int, cat_ref, cat_null, cat_jk, q_cs_nil, q_cs_int, q_cs_ref, q_cs_long, q_tl_some, q_tl_none, nz_0, nz_1, nzn_0, nzn_1, nz_b, true_and, and_true, Nat.reduceLeDiff, Nat.reduceAdd, b_eq0, b_eq1, b_0eq, ite_not, not_true_eq_false, not_false_eq_true, ↓reduceIte, l_0, l_1, l_2, l_3, l_4, l_5, l_6, l_7, l_8, l_9, l_10, l_11, l_12, l_13, l_14, l_15, l_16, l_17, l_18, l_19, l_20, l_24, l_32, l_40, l_41, l_42, l_43, l_45, l_48, l_57, l_59, l_60, l_61, l_63, l_64, l_80, l_96, l_97, l_99, l_100, l_122, l_160, l_200, l_320, l_640, l_999, l_1000, l_1200, l_4000, l_99999, l_100000, l_100001, l_100002, l_100006, l_100010, l_252645135, l_858993459, l_1431655765, n_cl, n_lt, n_le, n_eq, n_in, n_add, n_mul, n_sub, n_div, n_mod, n_addneg, n_negl, n_nege, Nat.add_sub_cancel, d_ltT, d_ltF, d_leT, d_leF, d_eqT, d_eqF, ↓reduceIte, Nat.reduceLeDiff, Nat.reduceAdd, Nat.reduceMul, Nat.reduceSub, Nat.reduceLT, Nat.zero_add, Nat.add_zero, not_false_eq_true, hz.1, hz.2.1, hz.2.2.1, hz.2.2.2.1, hz.2.2.2.2.1]
      refine s_lets hz (I := q_up I1 42 7 (Int32.ofNat s)) (xT_f (xT_f5 hT f1) (q_up_k (by decide)) (q_up_fa (by decide))) (N - s) s _ rfl s2 ⟨fun _ _ => rfl, fun _ _ _ => rfl⟩ ((q_up_k (by decide)).trans g5) fun I2 f2 g6 => ?_
      obtain ⟨w1, w2⟩ := xw_b (N := N) (fun q => @xcl B N q) _ s rfl s2
      have win := xw_in (N := N) (fun q => @xcl B N q) _ s rfl s2
      have e7 : I2 42 7 = Int32.ofNat s := (f2.2 7 (by decide) (by decide)).trans q_up_same
      have ot : ∀ a, a ≠ 42 → I2 a = I a := fun a ha => by rw [f2.1 a ha, q_up_fa ha, f1.1 a ha]
      have hsm : s + (x_w (x_cl B N) N s - s) = x_w (x_cl B N) N s := by omega
      simp (disch := omega) only [r3010_134, r3010_135, va_rf_some, va_rf_none, cat_int, cat_ref, cat_null, cat_jk, q_cs_nil, q_cs_int, q_cs_ref, q_cs_long, q_tl_some, q_tl_none, nz_0, nz_1, nzn_0, nzn_1, nz_b, true_and, and_true, Nat.reduceLeDiff, Nat.reduceAdd, l_0, l_1, l_2, l_3, l_4, l_5, l_6, l_7, l_8, l_9, l_10, l_11, l_12, l_13, l_14, l_15, l_16, l_17, l_18, l_19, l_20, l_24, l_32, l_40, l_41, l_42, l_43, l_45, l_48, l_57, l_59, l_60, l_61, l_63, l_64, l_80, l_96, l_97, l_99, l_100, l_122, l_160, l_200, l_320, l_640, l_999, l_1000, l_1200, l_4000, l_99999, l_100000, l_100001, l_100002, l_100006, l_100010, l_252645135, l_858993459, l_1431655765, n_cl, n_lt, n_le, n_eq, n_in, n_add, n_mul, n_sub, n_div, n_mod, n_addneg, n_negl, n_nege, Nat.add_sub_cancel, d_ltT, d_ltF, d_leT, d_leF, d_eqT, d_eqF, ↓reduceIte, Nat.reduceLeDiff, Nat.reduceAdd, Nat.reduceMul, Nat.reduceSub, Nat.reduceLT, Nat.zero_add, Nat.add_zero, not_false_eq_true, hz.1, hz.2.1, hz.2.2.1, hz.2.2.2.1, hz.2.2.2.2.1]
      rw [r3010_136]
      refine ⟨⟨by decide, by show (zK 42).1 = 3; rw [hz.1]⟩, ?_⟩
      rw [s_wordToken hz (B := B) (s := s) (m := x_w (x_cl B N) N s - s) (fun i hi j => by rw [ot _ (by omega)]; exact hS i hi j) (by rw [hsm]; exact g6) e7 (by omega) fun j hj => ?_]
      · simp (disch := omega) only [q_tl_some, List.cons_append, List.nil_append, r3010_139, r3010_142, r3010_278, va_rf_some, va_rf_none, cat_int, cat_ref, cat_null, cat_jk, q_cs_nil, q_cs_int, q_cs_ref, q_cs_long, q_tl_some, q_tl_none, nz_0, nz_1, nzn_0, nzn_1, nz_b, true_and, and_true, Nat.reduceLeDiff, Nat.reduceAdd, l_0, l_1, l_2, l_3, l_4, l_5, l_6, l_7, l_8, l_9, l_10, l_11, l_12, l_13, l_14, l_15, l_16, l_17, l_18, l_19, l_20, l_24, l_32, l_40, l_41, l_42, l_43, l_45, l_48, l_57, l_59, l_60, l_61, l_63, l_64, l_80, l_96, l_97, l_99, l_100, l_122, l_160, l_200, l_320, l_640, l_999, l_1000, l_1200, l_4000, l_99999, l_100000, l_100001, l_100002, l_100006, l_100010, l_252645135, l_858993459, l_1431655765, n_cl, n_lt, n_le, n_eq, n_in, n_add, n_mul, n_sub, n_div, n_mod, n_addneg, n_negl, n_nege, Nat.add_sub_cancel, d_ltT, d_ltF, d_leT, d_leF, d_eqT, d_eqF, ↓reduceIte, Nat.reduceLeDiff, Nat.reduceAdd, Nat.reduceMul, Nat.reduceSub, Nat.reduceLT, Nat.zero_add, Nat.add_zero, not_false_eq_true, hz.1, hz.2.1, hz.2.2.1, hz.2.2.2.1, hz.2.2.2.2.1]
        refine hQ _ ⟨fun a ha => ?_, fun k hk => ?_⟩ ?_ q_up_same ?_ fun h => ?_
        · rw [q_up_fa ha]; exact ot a ha
        · rw [q_up_k (by omega), f2.2 k (by omega) (by omega), q_up_k (by omega)]; exact f1.2 k (by omega) (by omega)
        · rw [q_up_k (by decide)]; exact g6
        · rw [q_up_k (by decide)]; exact e7
        · exfalso
          revert h
          show x_wk _ = 1 → False
          generalize x_wc (x_ls B s (x_w (x_cl B N) N s - s)) = k
          unfold x_wk
          split; omega; split; omega; split; omega; omega
      · have hj' := win (s + j) (by omega) (by omega)
        have hb := (of_decide_eq_true hj').2
        have ht := hT.2.2 (s + j) (by omega)
        rw [ot 43 (by decide), ht.2, by_lo (by omega)]
        exact ⟨rfl, by omega⟩
    · simp only [if_neg h1] at hQ
      by_cases h2 : 48 ≤ B s ∧ B s ≤ 57
      · simp only [if_pos h2] at hQ
        simp (disch := omega) only [r3010_52, r3010_53, r3010_54, r3010_57, r3010_60, r3010_61, r3010_64, r3010_65, r3010_68, r3010_71, r3010_72, r3010_74, r3010_77, r3010_80, r3010_81, r3010_84, r3010_85, r3010_88, r3010_89, r3010_92, e1, g5, b2', s_isLetter b1, if_neg h1, q_up_k, q_up_a, va_rf_some, va_rf_none, cat_int, cat_ref, cat_null, cat_jk, q_cs_nil, q_cs_int, q_cs_ref, q_cs_long, q_tl_some, q_tl_none, nz_0, nz_1, nzn_0, nzn_1, nz_b, true_and, and_true, Nat.reduceLeDiff, Nat.reduceAdd, l_0, l_1, l_2, l_3, l_4, l_5, l_6, l_7, l_8, l_9, l_10, l_11, l_12, l_13, l_14, l_15, l_16, l_17, l_18, l_19, l_20, l_24, l_32, l_40, l_41, l_42, l_43, l_45, l_48, l_57, l_59, l_60, l_61, l_63, l_64, l_80, l_96, l_97, l_99, l_100, l_122, l_160, l_200, l_320, l_640, l_999, l_1000, l_1200, l_4000, l_99999, l_100000, l_100001, l_100002, l_100006, l_100010, l_252645135, l_858993459, l_1431655765, n_cl, n_lt, n_le, n_eq, n_in, n_add, n_mul, n_sub, n_div, n_mod, n_addneg, n_negl, n_nege, Nat.add_sub_cancel, d_ltT, d_ltF, d_leT, d_leF, d_eqT, d_eqF, ↓reduceIte, Nat.reduceLeDiff, Nat.reduceAdd, Nat.reduceMul, Nat.reduceSub, Nat.reduceLT, Nat.zero_add, Nat.add_zero, not_false_eq_true, hz.1, hz.2.1, hz.2.2.1, hz.2.2.2.1, hz.2.2.2.2.1]
        simp (disch := omega) only [r3010_145, r3010_146, r3010_149, r3010_150, r3010_153, r3010_154, r3010_157, r3010_160, r3010_161, r3010_162, e1, g5, b2', s_isDigit b1, h2, q_up_k, q_up_a, and_self, va_rf_some, va_rf_none, cat_int, cat_ref, cat_null, cat_jk, q_cs_nil, q_cs_int, q_cs_ref, q_cs_long, q_tl_some, q_tl_none, nz_0, nz_1, nzn_0, nzn_1, nz_b, true_and, and_true, Nat.reduceLeDiff, Nat.reduceAdd, b_eq0, b_eq1, b_0eq, ite_not, not_true_eq_false, not_false_eq_true, ↓reduceIte, l_0, l_1, l_2, l_3, l_4, l_5, l_6, l_7, l_8, l_9, l_10, l_11, l_12, l_13, l_14, l_15, l_16, l_17, l_18, l_19, l_20, l_24, l_32, l_40, l_41, l_42, l_43, l_45, l_48, l_57, l_59, l_60, l_61, l_63, l_64, l_80, l_96, l_97, l_99, l_100, l_122, l_160, l_200, l_320, l_640, l_999, l_1000, l_1200, l_4000, l_99999, l_100000, l_100001, l_100002, l_100006, l_100010, l_252645135, l_858993459, l_1431655765, n_cl, n_lt, n_le, n_eq, n_in, n_add, n_mul, n_sub, n_div, n_mod, n_addneg, n_negl, n_nege, Nat.add_sub_cancel, d_ltT, d_ltF, d_leT, d_leF, d_eqT, d_eqF, ↓reduceIte, Nat.reduceLeDiff, Nat.reduceAdd, Nat.reduceMul, Nat.reduceSub, Nat.reduceLT, Nat.zero_add, Nat.add_zero, not_false_eq_true, hz.1, hz.2.1, hz.2.2.1, hz.2.2.2.1, hz.2.2.2.2.1]
        refine s_digs hz (s := s) (I := q_up I1 42 7 (Int32.ofNat s)) (xT_f (xT_f5 hT f1) (q_up_k (by decide)) (q_up_fa (by decide))) (N - s) 0 _ rfl s2 (f5_up ⟨fun _ _ => rfl, fun _ _ _ => rfl⟩ (.inr rfl)) ?_ ?_ fun I2 e f2 g2 g6 g8 => ?_
        · rw [q_up_k (by decide), q_up_k (by decide)]; exact g5
        · rw [q_up_same]; rfl
        rw [Nat.add_zero] at g2
        rw [g2, Nat.add_sub_cancel_left] at hQ
        have win := xw_in (N := N) (fun q => @xcd B N q) _ s rfl s2
        have wb := (xw_b (N := N) (fun q => @xcd B N q) _ s rfl s2).2
        rw [g2] at win wb
        have e7 : I2 42 7 = Int32.ofNat s := (f2.2 7 (by decide) (by decide)).trans q_up_same
        have ot : ∀ a, a ≠ 42 → I2 a = I a := fun a ha => by rw [f2.1 a ha, q_up_fa ha, f1.1 a ha]
        have fr : ∀ v, y_f I (q_up I2 42 6 v) := fun v => ⟨fun a ha => by rw [q_up_fa ha]; exact ot a ha, fun k hk => by rw [q_up_k (by omega), f2.2 k (by omega) (by omega), q_up_k (by omega)]; exact f1.2 k (by omega) (by omega)⟩
        by_cases h4 : e ≤ 4
        · simp only [if_pos h4] at hQ
          simp (disch := omega) only [r3010_228, r3010_229, r3010_230, r3010_233, r3010_234, r3010_237, r3010_238, r3010_239, r3010_242, r3010_244, r3010_247, r3010_249, r3010_252, r3010_278, g6, e7, n_sub, Nat.add_sub_cancel_left, va_rf_some, va_rf_none, cat_int, cat_ref, cat_null, cat_jk, q_cs_nil, q_cs_int, q_cs_ref, q_cs_long, q_tl_some, q_tl_none, nz_0, nz_1, nzn_0, nzn_1, nz_b, true_and, and_true, Nat.reduceLeDiff, Nat.reduceAdd, l_0, l_1, l_2, l_3, l_4, l_5, l_6, l_7, l_8, l_9, l_10, l_11, l_12, l_13, l_14, l_15, l_16, l_17, l_18, l_19, l_20, l_24, l_32, l_40, l_41, l_42, l_43, l_45, l_48, l_57, l_59, l_60, l_61, l_63, l_64, l_80, l_96, l_97, l_99, l_100, l_122, l_160, l_200, l_320, l_640, l_999, l_1000, l_1200, l_4000, l_99999, l_100000, l_100001, l_100002, l_100006, l_100010, l_252645135, l_858993459, l_1431655765, n_cl, n_lt, n_le, n_eq, n_in, n_add, n_mul, n_sub, n_div, n_mod, n_addneg, n_negl, n_nege, Nat.add_sub_cancel, d_ltT, d_ltF, d_leT, d_leF, d_eqT, d_eqF, ↓reduceIte, Nat.reduceLeDiff, Nat.reduceAdd, Nat.reduceMul, Nat.reduceSub, Nat.reduceLT, Nat.zero_add, Nat.add_zero, not_false_eq_true, hz.1, hz.2.1, hz.2.2.1, hz.2.2.2.1, hz.2.2.2.2.1]
          refine hQ _ (fr _) ?_ q_up_same ?_ fun _ => ?_
          · rw [q_up_k (by decide)]; exact g6
          · rw [q_up_k (by decide)]; exact e7
          · rw [q_up_k (by decide), g8]
            refine ynv_eq fun a ha => ?_
            obtain ⟨k, k1, k2, rfl⟩ := xls_mem ha
            exact (of_decide_eq_true (win k k1 k2)).2
        · simp only [if_neg h4] at hQ
          simp (disch := omega) only [r3010_228, r3010_229, r3010_230, r3010_233, r3010_234, r3010_237, r3010_238, r3010_239, r3010_242, r3010_244, r3010_247, r3010_249, r3010_252, r3010_278, g6, e7, n_sub, Nat.add_sub_cancel_left, va_rf_some, va_rf_none, cat_int, cat_ref, cat_null, cat_jk, q_cs_nil, q_cs_int, q_cs_ref, q_cs_long, q_tl_some, q_tl_none, nz_0, nz_1, nzn_0, nzn_1, nz_b, true_and, and_true, Nat.reduceLeDiff, Nat.reduceAdd, l_0, l_1, l_2, l_3, l_4, l_5, l_6, l_7, l_8, l_9, l_10, l_11, l_12, l_13, l_14, l_15, l_16, l_17, l_18, l_19, l_20, l_24, l_32, l_40, l_41, l_42, l_43, l_45, l_48, l_57, l_59, l_60, l_61, l_63, l_64, l_80, l_96, l_97, l_99, l_100, l_122, l_160, l_200, l_320, l_640, l_999, l_1000, l_1200, l_4000, l_99999, l_100000, l_100001, l_100002, l_100006, l_100010, l_252645135, l_858993459, l_1431655765, n_cl, n_lt, n_le, n_eq, n_in, n_add, n_mul, n_sub, n_div, n_mod, n_addneg, n_negl, n_nege, Nat.add_sub_cancel, d_ltT, d_ltF, d_leT, d_leF, d_eqT, d_eqF, ↓reduceIte, Nat.reduceLeDiff, Nat.reduceAdd, Nat.reduceMul, Nat.reduceSub, Nat.reduceLT, Nat.zero_add, Nat.add_zero, not_false_eq_true, hz.1, hz.2.1, hz.2.2.1, hz.2.2.2.1, hz.2.2.2.2.1]
          refine hQ _ (fr _) ?_ q_up_same ?_ fun h => absurd (show 7 = 1 from h) (by decide)
          · rw [q_up_k (by decide)]; exact g6
          · rw [q_up_k (by decide)]; exact e7
      · simp only [if_neg h2] at hQ
        simp (disch := omega) only [r3010_52, r3010_53, r3010_54, r3010_57, r3010_60, r3010_61, r3010_64, r3010_65, r3010_68, r3010_71, r3010_72, r3010_74, r3010_77, r3010_80, r3010_81, r3010_84, r3010_85, r3010_88, r3010_89, r3010_92, e1, g5, b2', s_isLetter b1, if_neg h1, q_up_k, q_up_a, va_rf_some, va_rf_none, cat_int, cat_ref, cat_null, cat_jk, q_cs_nil, q_cs_int, q_cs_ref, q_cs_long, q_tl_some, q_tl_none, nz_0, nz_1, nzn_0, nzn_1, nz_b, true_and, and_true, Nat.reduceLeDiff, Nat.reduceAdd, l_0, l_1, l_2, l_3, l_4, l_5, l_6, l_7, l_8, l_9, l_10, l_11, l_12, l_13, l_14, l_15, l_16, l_17, l_18, l_19, l_20, l_24, l_32, l_40, l_41, l_42, l_43, l_45, l_48, l_57, l_59, l_60, l_61, l_63, l_64, l_80, l_96, l_97, l_99, l_100, l_122, l_160, l_200, l_320, l_640, l_999, l_1000, l_1200, l_4000, l_99999, l_100000, l_100001, l_100002, l_100006, l_100010, l_252645135, l_858993459, l_1431655765, n_cl, n_lt, n_le, n_eq, n_in, n_add, n_mul, n_sub, n_div, n_mod, n_addneg, n_negl, n_nege, Nat.add_sub_cancel, d_ltT, d_ltF, d_leT, d_leF, d_eqT, d_eqF, ↓reduceIte, Nat.reduceLeDiff, Nat.reduceAdd, Nat.reduceMul, Nat.reduceSub, Nat.reduceLT, Nat.zero_add, Nat.add_zero, not_false_eq_true, hz.1, hz.2.1, hz.2.2.1, hz.2.2.2.1, hz.2.2.2.2.1]
        simp (disch := omega) only [r3010_145, r3010_146, r3010_149, r3010_150, r3010_153, r3010_154, r3010_157, e1, g5, b2', s_isDigit b1, if_neg h2, q_up_k, q_up_a, va_rf_some, va_rf_none, cat_int, cat_ref, cat_null, cat_jk, q_cs_nil, q_cs_int, q_cs_ref, q_cs_long, q_tl_some, q_tl_none, nz_0, nz_1, nzn_0, nzn_1, nz_b, true_and, and_true, Nat.reduceLeDiff, Nat.reduceAdd, l_0, l_1, l_2, l_3, l_4, l_5, l_6, l_7, l_8, l_9, l_10, l_11, l_12, l_13, l_14, l_15, l_16, l_17, l_18, l_19, l_20, l_24, l_32, l_40, l_41, l_42, l_43, l_45, l_48, l_57, l_59, l_60, l_61, l_63, l_64, l_80, l_96, l_97, l_99, l_100, l_122, l_160, l_200, l_320, l_640, l_999, l_1000, l_1200, l_4000, l_99999, l_100000, l_100001, l_100002, l_100006, l_100010, l_252645135, l_858993459, l_1431655765, n_cl, n_lt, n_le, n_eq, n_in, n_add, n_mul, n_sub, n_div, n_mod, n_addneg, n_negl, n_nege, Nat.add_sub_cancel, d_ltT, d_ltF, d_leT, d_leF, d_eqT, d_eqF, ↓reduceIte, Nat.reduceLeDiff, Nat.reduceAdd, Nat.reduceMul, Nat.reduceSub, Nat.reduceLT, Nat.zero_add, Nat.add_zero, not_false_eq_true, hz.1, hz.2.1, hz.2.2.1, hz.2.2.2.1, hz.2.2.2.2.1]
        simp (disch := omega) only [r3010_255, r3010_256, r3010_257, r3010_260, r3010_261, r3010_262, r3010_265, r3010_266, r3010_267, r3010_268, r3010_271, r3010_272, r3010_275, r3010_278, e1, g5, b2', s_signToken b1, q_up_k, q_up_a, va_rf_some, va_rf_none, cat_int, cat_ref, cat_null, cat_jk, q_cs_nil, q_cs_int, q_cs_ref, q_cs_long, q_tl_some, q_tl_none, nz_0, nz_1, nzn_0, nzn_1, nz_b, true_and, and_true, Nat.reduceLeDiff, Nat.reduceAdd, l_0, l_1, l_2, l_3, l_4, l_5, l_6, l_7, l_8, l_9, l_10, l_11, l_12, l_13, l_14, l_15, l_16, l_17, l_18, l_19, l_20, l_24, l_32, l_40, l_41, l_42, l_43, l_45, l_48, l_57, l_59, l_60, l_61, l_63, l_64, l_80, l_96, l_97, l_99, l_100, l_122, l_160, l_200, l_320, l_640, l_999, l_1000, l_1200, l_4000, l_99999, l_100000, l_100001, l_100002, l_100006, l_100010, l_252645135, l_858993459, l_1431655765, n_cl, n_lt, n_le, n_eq, n_in, n_add, n_mul, n_sub, n_div, n_mod, n_addneg, n_negl, n_nege, Nat.add_sub_cancel, d_ltT, d_ltF, d_leT, d_leF, d_eqT, d_eqF, ↓reduceIte, Nat.reduceLeDiff, Nat.reduceAdd, Nat.reduceMul, Nat.reduceSub, Nat.reduceLT, Nat.zero_add, Nat.add_zero, not_false_eq_true, hz.1, hz.2.1, hz.2.2.1, hz.2.2.2.1, hz.2.2.2.2.1]
        refine hQ _ ⟨fun a ha => ?_, fun k hk => ?_⟩ ?_ q_up_same ?_ fun h => ?_
        · rw [q_up_fa ha, q_up_fa ha, q_up_fa ha]; exact f1.1 a ha
        · rw [q_up_k (by omega), q_up_k (by omega), q_up_k (by omega)]; exact f1.2 k (by omega) (by omega)
        · rw [q_up_k (by decide), q_up_same]
        · rw [q_up_k (by decide), q_up_k (by decide), q_up_same]
        · exfalso
          revert h
          show x_sg (B s) = 1 → False
          unfold x_sg
          split
          · omega
          · omega
end
