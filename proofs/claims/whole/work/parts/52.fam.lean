/-! flights of a changed throw -/
def p_fy (M : Nat → Nat → Int32) (k : Nat) (w p : Int32) : Prop := p_tw M k ∧ p_rw M ∧ p_swf M (p_si M k) ∧ p_nb w 63 ∧ p_nb p 60
theorem wf_fy {M : Nat → Nat → Int32} {k : Nat} (h : p_wf M) (hk : k < p_tn M) {w p : Int32} (hw : p_nb w 63) (hp : p_nb p 60) : p_fy M k w p := ⟨wf_tw h hk, wf_rw h, wf_swf h (wf_si h hk), hw, hp⟩
/-- M' is M but for the wind, the law in force, lifts, drags and weights -/
def p_sim (M M' : Nat → Nat → Int32) : Prop := (∀ a, a ≠ 135 → a ≠ 140 → a ≠ 141 → a ≠ 142 → M' a = M a) ∧ ∀ j, j ≠ 8 → j ≠ 26 → M' 135 j = M 135 j
theorem fy_sim {M M' : Nat → Nat → Int32} {k : Nat} {w p : Int32} (h : p_fy M k w p) (hs : p_sim M M') (hr : M' 135 26 = M 135 26) : p_fy M' k w p := by
  obtain ⟨⟨h1, h2, ⟨s, hs1, hs2, hs3⟩, h4, h5, h6⟩, ⟨rl, r1, r2, r3⟩, ⟨g1, g2⟩, hw, hp⟩ := h
  have e : ∀ a, a ≠ 135 → a ≠ 140 → a ≠ 141 → a ≠ 142 → M' a = M a := hs.1
  have esi : p_si M' k = p_si M k := by unfold p_si; rw [e 144 (by decide) (by decide) (by decide) (by decide)]
  refine ⟨⟨h1, ?_, ⟨s, hs1, ?_, ?_⟩, ?_, ?_, ?_⟩, ⟨rl, r1, hr.trans r2, ?_⟩, ?_, hw, hp⟩
  · rw [e 143 (by decide) (by decide) (by decide) (by decide)]; exact h2
  · rw [e 144 (by decide) (by decide) (by decide) (by decide)]; exact hs2
  · rw [e 137 (by decide) (by decide) (by decide) (by decide)]; exact hs3
  · rw [e 147 (by decide) (by decide) (by decide) (by decide)]; exact h4
  · rw [e 148 (by decide) (by decide) (by decide) (by decide)]; exact h5
  · rw [e 149 (by decide) (by decide) (by decide) (by decide)]; exact h6
  · have e154 := e 154 (by decide) (by decide) (by decide) (by decide)
    have e153 := e 153 (by decide) (by decide) (by decide) (by decide)
    have ea : ∀ j, p_at M' rl j = p_at M rl j := fun j => by unfold p_at; rw [e154]
    have ec : p_cd M' rl = p_cd M rl := by unfold p_cd; rw [e153]
    unfold p_lawok at r3 ⊢
    simp only [ea, ec, e154]
    exact r3
  · rw [esi]
    unfold p_swf p_pc at *
    rw [e 137 (by decide) (by decide) (by decide) (by decide), e 138 (by decide) (by decide) (by decide) (by decide)]
    exact ⟨g1, g2⟩
theorem con_sim {I M M' : Nat → Nat → Int32} (h : p_con I M) (hs : p_sim M M') : p_con I M' := by
  unfold p_con at h ⊢
  rw [hs.1 136 (by decide) (by decide) (by decide) (by decide)]
  exact h
theorem p_stk_pc {I M M' : Nat → Nat → Int32} {a s : Nat} (h : p_stk I M a s) (e : ∀ a, 137 ≤ a → a ≤ 142 → M' a = M a) : p_stk I M' a s := by
  unfold p_stk p_pc at h ⊢
  rw [e 137 (by omega) (by omega), e 138 (by omega) (by omega), e 139 (by omega) (by omega), e 140 (by omega) (by omega), e 141 (by omega) (by omega), e 142 (by omega) (by omega)]
  exact h
/-- aimed otherwise: the way, the pace and the ground are changed -/
theorem fa_wpg {L k t st b u v : Nat} {r : Nat → Nat → Option Nat} {dk : Nat → Nat × Nat} {I I' M : Nat → Nat → Int32} {w p w' p' g g' : Int32} {mir mir' : Bool} (h : p_fa 45 L r dk I (q_up M 135 8 g) k w p mir t st b u v) (h1 : ∀ a, a ≠ 45 → I' a = I a) (h5 : I' 45 5 = w') (h6 : I' 45 6 = p') (h7 : I' 45 7 = g') (h8 : I' 45 8 = I 45 8) (h9 : I' 45 9 = if mir' = true then 1 else 0) : p_fa 45 L r dk I' (q_up M 135 8 g') k w' p' mir' t st b u v := by
  obtain ⟨a1, a2, a3, a4, a5, a6, a7, a8, hto, hsk, hst, hlw⟩ := h
  have ea : ∀ a, a ≠ 135 → q_up M 135 8 g' a = q_up M 135 8 g a := fun a ha => by rw [q_up_fa ha, q_up_fa ha]
  have e26 : q_up M 135 8 g' 135 26 = q_up M 135 8 g 135 26 := by rw [q_up_k (by decide), q_up_k (by decide)]
  have esi : p_si (q_up M 135 8 g') k = p_si (q_up M 135 8 g) k := by unfold p_si; rw [ea 144 (by decide)]
  have erl : p_rl (q_up M 135 8 g') = p_rl (q_up M 135 8 g) := by unfold p_rl; rw [e26]
  refine ⟨a1, a2, a3, h5, h6, ?_, ?_, h9, ?_, hsk, ?_, ?_⟩
  · rw [h7, q_up_same]
  · rw [h8, a7, q_up_k (by decide), q_up_k (by decide)]
  · have ht := hto.1
    unfold p_to at hto ⊢
    rw [h1 t (by omega), esi, ea 143 (by decide), ea 145 (by decide), ea 146 (by decide), ea 147 (by decide), ea 148 (by decide), ea 149 (by decide)]
    exact hto
  · rw [esi]
    have hst' := p_stk_pc (M' := q_up M 135 8 g') hst (fun a x y => ea a (by omega))
    have es : ∀ j, j ≤ 10 → I' (st + j) = I (st + j) := fun j hj => h1 _ (by rcases hsk with rfl | rfl | rfl | rfl | rfl <;> omega)
    unfold p_stk at hst' ⊢
    rw [show I' st = I st from es 0 (by omega), es 2 (by omega), es 3 (by omega), es 4 (by omega), es 5 (by omega), es 6 (by omega)]
    exact hst'
  · rw [erl]
    have hb := hlw.1
    unfold p_lw p_at p_cd at hlw ⊢
    rw [h1 u (by omega), h1 v (by omega), ea 153 (by decide), ea 154 (by decide)]
    exact hlw
theorem up_id8 {M : Nat → Nat → Int32} : q_up M 135 8 (M 135 8) = M := q_up_id rfl
theorem sim_up8 {M : Nat → Nat → Int32} {g : Int32} : p_sim M (q_up M 135 8 g) := ⟨fun a h _ _ _ => q_up_fa h, fun j h _ => q_up_k h⟩
section
variable {d c L n : Nat} {Q : Option Value → q_H → Prop} {I M : Nat → Nat → Int32} {r : Nat → Nat → Option Nat} {dk : Nat → Nat × Nat}
/-- after the flight 45 was flown -/
def p_gone (L : Nat) (r : Nat → Nat → Option Nat) (dk : Nat → Nat × Nat) (I M : Nat → Nat → Int32) (k : Nat) (w p : Int32) (mir : Bool) (t st b u v : Nat) (I' : Nat → Nat → Int32) : Prop :=
  (∀ a, ¬(45 ≤ a ∧ a ≤ 56) → I' a = I a) ∧ (∀ j, j ≠ 1 → I' 45 j = I 45 j) ∧ p_con I' M ∧ p_fa 45 L r dk I' M k w p mir t st b u v ∧ p_fd I' (p_row M k w p mir)
theorem s_goA {k t st b u v : Nat} {w p : Int32} {mir : Bool} (hc : p_con I M) (ha : p_fa 45 L r dk I M k w p mir t st b u v) (hy : p_fy M k w p) (hQ : ∀ I', p_gone L r dk I M k w p mir t st b u v I' → Q none (p_h L I' r dk n)) :
    q_wp (d + 5) c 2 0 [.ref 45, q_jk] [] (p_h L I r dk n) Q := by
  obtain ⟨y1, y2, y3, y4, y5⟩ := hy
  refine s_go (.inl rfl) hc ha y1 y2 y3 y4 y5 fun I' h5 h6 => hQ I' ⟨h5.1, h5.2.1, ?_, p_fa_fr (.inl rfl) ha h5.1 h5.2.1, h5.2.2.1, h5.2.2.2⟩
  unfold p_con at hc ⊢
  rw [h5.1 0 (by omega), h5.1 1 (by omega)]
  exact hc
theorem s_raa {k t st b u v : Nat} {w p x : Int32} {mir : Bool} (hc : p_con I M) (ha : p_fa 45 L r dk I M k w p mir t st b u v) (hy : p_fy M k w p) (hQ : ∀ I', p_gone L r dk I M k w p mir t st b u v I' → Q (some (.int (if p_bk (p_row M k w p mir) x then 1 else 0))) (p_h L I' r dk n)) :
    q_wp (d + 6) c 7059 0 [.ref 32, .int x] [] (p_h L I r dk n) Q := by
  simp (disch := omega) only [r7059_0, r7059_1, r7059_4, va_rf_some, va_rf_none, cat_int, cat_ref, cat_null, cat_jk, q_cs_nil, q_cs_int, q_cs_ref, q_cs_long, q_tl_some, q_tl_none, nz_0, nz_1, nzn_0, nzn_1, nz_b, true_and, and_true, Nat.reduceLeDiff, Nat.reduceAdd, l_0, l_1, l_2, l_3, l_4, l_5, l_6, l_7, l_8, l_9, l_10, l_11, l_12, l_13, l_14, l_15, l_16, l_17, l_18, l_19, l_20, l_24, l_32, l_40, l_41, l_42, l_43, l_45, l_48, l_57, l_59, l_60, l_61, l_63, l_64, l_80, l_96, l_97, l_99, l_100, l_122, l_160, l_200, l_320, l_640, l_999, l_1000, l_1200, l_4000, l_99999, l_100000, l_100001, l_100002, l_100006, l_100010, l_252645135, l_858993459, l_1431655765, n_cl, n_lt, n_le, n_eq, n_in, n_add, n_mul, n_sub, n_div, n_mod, n_addneg, n_negl, n_nege, Nat.add_sub_cancel, d_ltT, d_ltF, d_leT, d_leF, d_eqT, d_eqF, ↓reduceIte, Nat.reduceLeDiff, Nat.reduceAdd, Nat.reduceMul, Nat.reduceSub, Nat.reduceLT, Nat.zero_add, Nat.add_zero, not_false_eq_true, pK_32, pK_33, pK_34, pK_35, pK_36, pK_37, pK_38, pK_39, pK_40, pK_41, pK_42, pK_43, pK_44, pR_32_0, pR_32_1, pR_32_2, pR_32_3, pR_32_4, pR_32_5, pR_32_6, pR_32_7, pR_32_8, pR_33_0, pR_33_1, pR_33_2, pR_33_3, pR_36_0, pR_36_1, pR_36_2, pR_36_3, pR_37_0, pR_37_1, pR_37_3, pR_37_4, pR_42_0, pR_42_3, pK_124, pK_125, pK_126, pK_127, pK_128, pK_129, pK_130, pK_131, pK_132, pK_133, pK_134, pR_124_0, pR_126_0, pR_128_0, pR_130_0, pR_134_0, pR_134_1, pK_45]
  refine s_goA hc ha hy fun I' h => ?_
  have h2 := h.2.2.2.2
  simp (disch := omega) only [q_tl_none, r7059_7, r7059_8, r7059_11, r7059_12, r7059_15, s_returns h2, b_eq0, b_eq1, b_0eq, ite_not, not_true_eq_false, not_false_eq_true, ↓reduceIte, va_rf_some, va_rf_none, cat_int, cat_ref, cat_null, cat_jk, q_cs_nil, q_cs_int, q_cs_ref, q_cs_long, q_tl_some, q_tl_none, nz_0, nz_1, nzn_0, nzn_1, nz_b, true_and, and_true, Nat.reduceLeDiff, Nat.reduceAdd, l_0, l_1, l_2, l_3, l_4, l_5, l_6, l_7, l_8, l_9, l_10, l_11, l_12, l_13, l_14, l_15, l_16, l_17, l_18, l_19, l_20, l_24, l_32, l_40, l_41, l_42, l_43, l_45, l_48, l_57, l_59, l_60, l_61, l_63, l_64, l_80, l_96, l_97, l_99, l_100, l_122, l_160, l_200, l_320, l_640, l_999, l_1000, l_1200, l_4000, l_99999, l_100000, l_100001, l_100002, l_100006, l_100010, l_252645135, l_858993459, l_1431655765, n_cl, n_lt, n_le, n_eq, n_in, n_add, n_mul, n_sub, n_div, n_mod, n_addneg, n_negl, n_nege, Nat.add_sub_cancel, d_ltT, d_ltF, d_leT, d_leF, d_eqT, d_eqF, ↓reduceIte, Nat.reduceLeDiff, Nat.reduceAdd, Nat.reduceMul, Nat.reduceSub, Nat.reduceLT, Nat.zero_add, Nat.add_zero, not_false_eq_true, pK_32, pK_33, pK_34, pK_35, pK_36, pK_37, pK_38, pK_39, pK_40, pK_41, pK_42, pK_43, pK_44, pR_32_0, pR_32_1, pR_32_2, pR_32_3, pR_32_4, pR_32_5, pR_32_6, pR_32_7, pR_32_8, pR_33_0, pR_33_1, pR_33_2, pR_33_3, pR_36_0, pR_36_1, pR_36_2, pR_36_3, pR_37_0, pR_37_1, pR_37_3, pR_37_4, pR_42_0, pR_42_3, pK_124, pK_125, pK_126, pK_127, pK_128, pK_129, pK_130, pK_131, pK_132, pK_133, pK_134, pR_124_0, pR_126_0, pR_128_0, pR_130_0, pR_134_0, pR_134_1, pK_45, nzn_b]
  exact hQ I' h
theorem s_eaa {k t st b u v : Nat} {w p : Int32} {mir : Bool} (hc : p_con I M) (ha : p_fa 45 L r dk I M k w p mir t st b u v) (hy : p_fy M k w p) (hQ : ∀ I', p_gone L r dk I M k w p mir t st b u v I' → Q (some (.int (p_off (p_row M k w p mir (p_last (p_row M k w p mir)))))) (p_h L I' r dk n)) :
    q_wp (d + 6) c 7060 0 [.ref 32] [] (p_h L I r dk n) Q := by
  simp (disch := omega) only [r7060_0, r7060_1, r7060_4, va_rf_some, va_rf_none, cat_int, cat_ref, cat_null, cat_jk, q_cs_nil, q_cs_int, q_cs_ref, q_cs_long, q_tl_some, q_tl_none, nz_0, nz_1, nzn_0, nzn_1, nz_b, true_and, and_true, Nat.reduceLeDiff, Nat.reduceAdd, l_0, l_1, l_2, l_3, l_4, l_5, l_6, l_7, l_8, l_9, l_10, l_11, l_12, l_13, l_14, l_15, l_16, l_17, l_18, l_19, l_20, l_24, l_32, l_40, l_41, l_42, l_43, l_45, l_48, l_57, l_59, l_60, l_61, l_63, l_64, l_80, l_96, l_97, l_99, l_100, l_122, l_160, l_200, l_320, l_640, l_999, l_1000, l_1200, l_4000, l_99999, l_100000, l_100001, l_100002, l_100006, l_100010, l_252645135, l_858993459, l_1431655765, n_cl, n_lt, n_le, n_eq, n_in, n_add, n_mul, n_sub, n_div, n_mod, n_addneg, n_negl, n_nege, Nat.add_sub_cancel, d_ltT, d_ltF, d_leT, d_leF, d_eqT, d_eqF, ↓reduceIte, Nat.reduceLeDiff, Nat.reduceAdd, Nat.reduceMul, Nat.reduceSub, Nat.reduceLT, Nat.zero_add, Nat.add_zero, not_false_eq_true, pK_32, pK_33, pK_34, pK_35, pK_36, pK_37, pK_38, pK_39, pK_40, pK_41, pK_42, pK_43, pK_44, pR_32_0, pR_32_1, pR_32_2, pR_32_3, pR_32_4, pR_32_5, pR_32_6, pR_32_7, pR_32_8, pR_33_0, pR_33_1, pR_33_2, pR_33_3, pR_36_0, pR_36_1, pR_36_2, pR_36_3, pR_37_0, pR_37_1, pR_37_3, pR_37_4, pR_42_0, pR_42_3, pK_124, pK_125, pK_126, pK_127, pK_128, pK_129, pK_130, pK_131, pK_132, pK_133, pK_134, pR_124_0, pR_126_0, pR_128_0, pR_130_0, pR_134_0, pR_134_1, pK_45]
  refine s_goA hc ha hy fun I' h => ?_
  have h2 := h.2.2.2.2
  have hl := p_last_le (p_row M k w p mir)
  simp (disch := omega) only [q_tl_none, r7060_7, r7060_8, r7060_11, r7060_12, r7060_15, r7060_18, r7060_21, s_farOff h2, h2.1, va_rf_some, va_rf_none, cat_int, cat_ref, cat_null, cat_jk, q_cs_nil, q_cs_int, q_cs_ref, q_cs_long, q_tl_some, q_tl_none, nz_0, nz_1, nzn_0, nzn_1, nz_b, true_and, and_true, Nat.reduceLeDiff, Nat.reduceAdd, l_0, l_1, l_2, l_3, l_4, l_5, l_6, l_7, l_8, l_9, l_10, l_11, l_12, l_13, l_14, l_15, l_16, l_17, l_18, l_19, l_20, l_24, l_32, l_40, l_41, l_42, l_43, l_45, l_48, l_57, l_59, l_60, l_61, l_63, l_64, l_80, l_96, l_97, l_99, l_100, l_122, l_160, l_200, l_320, l_640, l_999, l_1000, l_1200, l_4000, l_99999, l_100000, l_100001, l_100002, l_100006, l_100010, l_252645135, l_858993459, l_1431655765, n_cl, n_lt, n_le, n_eq, n_in, n_add, n_mul, n_sub, n_div, n_mod, n_addneg, n_negl, n_nege, Nat.add_sub_cancel, d_ltT, d_ltF, d_leT, d_leF, d_eqT, d_eqF, ↓reduceIte, Nat.reduceLeDiff, Nat.reduceAdd, Nat.reduceMul, Nat.reduceSub, Nat.reduceLT, Nat.zero_add, Nat.add_zero, not_false_eq_true, pK_32, pK_33, pK_34, pK_35, pK_36, pK_37, pK_38, pK_39, pK_40, pK_41, pK_42, pK_43, pK_44, pR_32_0, pR_32_1, pR_32_2, pR_32_3, pR_32_4, pR_32_5, pR_32_6, pR_32_7, pR_32_8, pR_33_0, pR_33_1, pR_33_2, pR_33_3, pR_36_0, pR_36_1, pR_36_2, pR_36_3, pR_37_0, pR_37_1, pR_37_3, pR_37_4, pR_42_0, pR_42_3, pK_124, pK_125, pK_126, pK_127, pK_128, pK_129, pK_130, pK_131, pK_132, pK_133, pK_134, pR_124_0, pR_126_0, pR_128_0, pR_130_0, pR_134_0, pR_134_1, pK_45]
  exact hQ I' h
def p_gw (M : Nat → Nat → Int32) (k : Nat) (x : Int32) (v : Nat) (a : Int32) : Int32 := if p_bk (p_rowM (q_up M 135 8 (Int32.ofNat v)) k) x then a ||| ((1 : Int32) <<< (Int32.ofNat v &&& 31)) else a
def a_winds (M : Nat → Nat → Int32) (i x : Int32) : Int32 := p_sel M i (-5) fun t => if 0 ≤ x ∧ x ≤ 99 then p_it (p_gw M t x) 0 10 else -7
theorem p_rowM_up {k : Nat} {g : Int32} : p_rowM (q_up M 135 8 g) k = p_row (q_up M 135 8 g) k (M 145 k) (M 146 k) false := by
  unfold p_rowM
  rw [q_up_a (by decide), q_up_a (by decide)]
theorem s_winds_loop {i x : Int32} {k t st b u vv : Nat} {r0 : Nat → Nat → Option Nat} {I0 : Nat → Nat → Int32} (hW : p_wf M) (hk : k < p_tn M) (hQ : ∀ I', p_cs r0 I0 r I' → Q (some (.int (p_it (p_gw M k x) 0 10))) (p_h L I' r dk n)) :
    ∀ (m v : Nat) (I : Nat → Nat → Int32) (g : Int32), v + m = 10 → p_cs r0 I0 r I → p_con I M → p_fa 45 L r dk I (q_up M 135 8 g) k (M 145 k) (M 146 k) false t st b u vv →
      q_wp (d + 7) c 7022 41 [.ref 32, .int i, .int x, .ref t, .int (p_it (p_gw M k x) 0 v), .int (Int32.ofNat v)] [] (p_h L I r dk n) Q
  | 0, v, I, g, hv, h1, h2, h3 => by
    obtain rfl : v = 10 := hv
    rw [r7022_41]
    simp (disch := omega) only [r7022_43, r7022_45, r7022_80, r7022_82, va_rf_some, va_rf_none, cat_int, cat_ref, cat_null, cat_jk, q_cs_nil, q_cs_int, q_cs_ref, q_cs_long, q_tl_some, q_tl_none, nz_0, nz_1, nzn_0, nzn_1, nz_b, true_and, and_true, Nat.reduceLeDiff, Nat.reduceAdd, l_0, l_1, l_2, l_3, l_4, l_5, l_6, l_7, l_8, l_9, l_10, l_11, l_12, l_13, l_14, l_15, l_16, l_17, l_18, l_19, l_20, l_24, l_32, l_40, l_41, l_42, l_43, l_45, l_48, l_57, l_59, l_60, l_61, l_63, l_64, l_80, l_96, l_97, l_99, l_100, l_122, l_160, l_200, l_320, l_640, l_999, l_1000, l_1200, l_4000, l_99999, l_100000, l_100001, l_100002, l_100006, l_100010, l_252645135, l_858993459, l_1431655765, n_cl, n_lt, n_le, n_eq, n_in, n_add, n_mul, n_sub, n_div, n_mod, n_addneg, n_negl, n_nege, Nat.add_sub_cancel, d_ltT, d_ltF, d_leT, d_leF, d_eqT, d_eqF, ↓reduceIte, Nat.reduceLeDiff, Nat.reduceAdd, Nat.reduceMul, Nat.reduceSub, Nat.reduceLT, Nat.zero_add, Nat.add_zero, not_false_eq_true, pK_32, pK_33, pK_34, pK_35, pK_36, pK_37, pK_38, pK_39, pK_40, pK_41, pK_42, pK_43, pK_44, pR_32_0, pR_32_1, pR_32_2, pR_32_3, pR_32_4, pR_32_5, pR_32_6, pR_32_7, pR_32_8, pR_33_0, pR_33_1, pR_33_2, pR_33_3, pR_36_0, pR_36_1, pR_36_2, pR_36_3, pR_37_0, pR_37_1, pR_37_3, pR_37_4, pR_42_0, pR_42_3, pK_124, pK_125, pK_126, pK_127, pK_128, pK_129, pK_130, pK_131, pK_132, pK_133, pK_134, pR_124_0, pR_126_0, pR_128_0, pR_130_0, pR_134_0, pR_134_1]
    exact hQ I h1
  | m + 1, v, I, g, hv, h1, h2, h3 => by
    rw [r7022_41]
    simp (disch := omega) only [r7022_43, r7022_45, r7022_48, r7022_49, r7022_52, r7022_54, r7022_57, r7022_58, r7022_59, va_rf_some, va_rf_none, cat_int, cat_ref, cat_null, cat_jk, q_cs_nil, q_cs_int, q_cs_ref, q_cs_long, q_tl_some, q_tl_none, nz_0, nz_1, nzn_0, nzn_1, nz_b, true_and, and_true, Nat.reduceLeDiff, Nat.reduceAdd, l_0, l_1, l_2, l_3, l_4, l_5, l_6, l_7, l_8, l_9, l_10, l_11, l_12, l_13, l_14, l_15, l_16, l_17, l_18, l_19, l_20, l_24, l_32, l_40, l_41, l_42, l_43, l_45, l_48, l_57, l_59, l_60, l_61, l_63, l_64, l_80, l_96, l_97, l_99, l_100, l_122, l_160, l_200, l_320, l_640, l_999, l_1000, l_1200, l_4000, l_99999, l_100000, l_100001, l_100002, l_100006, l_100010, l_252645135, l_858993459, l_1431655765, n_cl, n_lt, n_le, n_eq, n_in, n_add, n_mul, n_sub, n_div, n_mod, n_addneg, n_negl, n_nege, Nat.add_sub_cancel, d_ltT, d_ltF, d_leT, d_leF, d_eqT, d_eqF, ↓reduceIte, Nat.reduceLeDiff, Nat.reduceAdd, Nat.reduceMul, Nat.reduceSub, Nat.reduceLT, Nat.zero_add, Nat.add_zero, not_false_eq_true, pK_32, pK_33, pK_34, pK_35, pK_36, pK_37, pK_38, pK_39, pK_40, pK_41, pK_42, pK_43, pK_44, pR_32_0, pR_32_1, pR_32_2, pR_32_3, pR_32_4, pR_32_5, pR_32_6, pR_32_7, pR_32_8, pR_33_0, pR_33_1, pR_33_2, pR_33_3, pR_36_0, pR_36_1, pR_36_2, pR_36_3, pR_37_0, pR_37_1, pR_37_3, pR_37_4, pR_42_0, pR_42_3, pK_124, pK_125, pK_126, pK_127, pK_128, pK_129, pK_130, pK_131, pK_132, pK_133, pK_134, pR_124_0, pR_126_0, pR_128_0, pR_130_0, pR_134_0, pR_134_1, pK_45]
    have ha := fa_wpg (I' := q_up I 45 7 (Int32.ofNat v)) (g' := Int32.ofNat v) (mir' := false) h3 (fun a ha => q_up_fa ha) ((q_up_k (by decide)).trans h3.2.2.2.1) ((q_up_k (by decide)).trans h3.2.2.2.2.1) q_up_same (q_up_k (by decide)) ((q_up_k (by decide)).trans h3.2.2.2.2.2.2.2.1)
    have hc : p_con (q_up I 45 7 (Int32.ofNat v)) (q_up M 135 8 (Int32.ofNat v)) := con_sim (by unfold p_con at h2 ⊢; rw [q_up_fa (by decide), q_up_fa (by decide)]; exact h2) sim_up8
    refine s_raa hc ha (fy_sim (wf_fy hW hk (wf_way hW hk).1 (wf_way hW hk).2) sim_up8 (q_up_k (by decide))) fun I' hg => ?_
    have e : p_it (p_gw M k x) (Int32.ofNat 0) (v + 1) = if p_bk (p_row (q_up M 135 8 (Int32.ofNat v)) k (M 145 k) (M 146 k) false) x then p_it (p_gw M k x) (Int32.ofNat 0) v ||| (Int32.ofNat 1 <<< (Int32.ofNat v &&& 31)) else p_it (p_gw M k x) (Int32.ofNat 0) v := by
      show p_gw M k x v _ = _
      unfold p_gw
      rw [p_rowM_up]
      rfl
    have IH := s_winds_loop (i := i) hW hk hQ m (v + 1) I' (Int32.ofNat v) (by omega) (p_cs_trans h1 ⟨fun a ha => (hg.1 a (by omega)).trans (q_up_fa (by omega)), fun _ _ _ => rfl⟩) (con_sim hg.2.2.1 ⟨fun a h _ _ _ => (q_up_fa h).symm, fun j h _ => (q_up_k h).symm⟩) hg.2.2.2.1
    simp only [l_0, l_1, l_2, l_3, l_4, l_5, l_6, l_7, l_8, l_9, l_10, l_11, l_12, l_13, l_14, l_15, l_16, l_17, l_18, l_19, l_20, l_24, l_32, l_40, l_41, l_42, l_43, l_45, l_48, l_57, l_59, l_60, l_61, l_63, l_64, l_80, l_96, l_97, l_99, l_100, l_122, l_160, l_200, l_320, l_640, l_999, l_1000, l_1200, l_4000, l_99999, l_100000, l_100001, l_100002, l_100006, l_100010, l_252645135, l_858993459, l_1431655765] at IH
    rw [e] at IH
    simp (disch := omega) only [q_tl_some, r7022_62, r7022_65, r7022_67, r7022_68, r7022_70, r7022_71, r7022_72, r7022_74, r7022_77, b_eq0, b_eq1, b_0eq, ite_not, not_true_eq_false, not_false_eq_true, ↓reduceIte, va_rf_some, va_rf_none, cat_int, cat_ref, cat_null, cat_jk, q_cs_nil, q_cs_int, q_cs_ref, q_cs_long, q_tl_some, q_tl_none, nz_0, nz_1, nzn_0, nzn_1, nz_b, true_and, and_true, Nat.reduceLeDiff, Nat.reduceAdd, l_0, l_1, l_2, l_3, l_4, l_5, l_6, l_7, l_8, l_9, l_10, l_11, l_12, l_13, l_14, l_15, l_16, l_17, l_18, l_19, l_20, l_24, l_32, l_40, l_41, l_42, l_43, l_45, l_48, l_57, l_59, l_60, l_61, l_63, l_64, l_80, l_96, l_97, l_99, l_100, l_122, l_160, l_200, l_320, l_640, l_999, l_1000, l_1200, l_4000, l_99999, l_100000, l_100001, l_100002, l_100006, l_100010, l_252645135, l_858993459, l_1431655765, n_cl, n_lt, n_le, n_eq, n_in, n_add, n_mul, n_sub, n_div, n_mod, n_addneg, n_negl, n_nege, Nat.add_sub_cancel, d_ltT, d_ltF, d_leT, d_leF, d_eqT, d_eqF, ↓reduceIte, Nat.reduceLeDiff, Nat.reduceAdd, Nat.reduceMul, Nat.reduceSub, Nat.reduceLT, Nat.zero_add, Nat.add_zero, not_false_eq_true, pK_32, pK_33, pK_34, pK_35, pK_36, pK_37, pK_38, pK_39, pK_40, pK_41, pK_42, pK_43, pK_44, pR_32_0, pR_32_1, pR_32_2, pR_32_3, pR_32_4, pR_32_5, pR_32_6, pR_32_7, pR_32_8, pR_33_0, pR_33_1, pR_33_2, pR_33_3, pR_36_0, pR_36_1, pR_36_2, pR_36_3, pR_37_0, pR_37_1, pR_37_3, pR_37_4, pR_42_0, pR_42_3, pK_124, pK_125, pK_126, pK_127, pK_128, pK_129, pK_130, pK_131, pK_132, pK_133, pK_134, pR_124_0, pR_126_0, pR_128_0, pR_130_0, pR_134_0, pR_134_1]
    split
    · rename_i hb
      rw [if_pos hb] at IH
      exact IH
    · rename_i hb
      rw [if_neg hb] at IH
      exact IH
end
