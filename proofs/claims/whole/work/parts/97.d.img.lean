/-! image, back: the class -/
def p_img (M : Nat → Nat → Int32) : Nat → Nat → Int32 := fun a k =>
  if a = 135 then (if k = 27 then 1 else if k = 28 then M 135 1 else if k = 29 then M 135 18 else if k = 30 then M 135 8 else if k = 31 then M 135 9 else if k = 32 then M 135 26 else M 135 k)
  else if a = 155 then (if k < 4 then M 137 k else M 155 k)
  else if a = 156 then (if k < 24 then M 140 k else M 156 k) else if a = 157 then (if k < 24 then M 141 k else M 157 k) else if a = 158 then (if k < 24 then M 142 k else M 158 k)
  else if a = 159 then (if k < 6 then M 150 k else M 159 k) else if a = 160 then (if k < 6 then M 151 k else M 160 k) else M a k
theorem img_o {M : Nat → Nat → Int32} {a : Nat} (h : a ≠ 135) (h' : ¬(155 ≤ a ∧ a ≤ 160)) : p_img M a = M a := by
  funext k
  unfold p_img
  rw [if_neg h, if_neg (by omega), if_neg (by omega), if_neg (by omega), if_neg (by omega), if_neg (by omega), if_neg (by omega)]
theorem img_5 {M : Nat → Nat → Int32} {k : Nat} (h : ¬(27 ≤ k ∧ k ≤ 32)) : p_img M 135 k = M 135 k := by
  show (if k = 27 then _ else if k = 28 then _ else if k = 29 then _ else if k = 30 then _ else if k = 31 then _ else if k = 32 then _ else _) = _
  rw [if_neg (by omega), if_neg (by omega), if_neg (by omega), if_neg (by omega), if_neg (by omega), if_neg (by omega)]
theorem img_27 {M : Nat → Nat → Int32} : p_img M 135 27 = 1 := rfl
theorem img_29 {M : Nat → Nat → Int32} : p_img M 135 29 = M 135 18 := rfl
theorem img_30 {M : Nat → Nat → Int32} : p_img M 135 30 = M 135 8 := rfl
theorem img_31 {M : Nat → Nat → Int32} : p_img M 135 31 = M 135 9 := rfl
theorem img_32 {M : Nat → Nat → Int32} : p_img M 135 32 = M 135 26 := rfl
theorem img_155 {M : Nat → Nat → Int32} {k : Nat} (h : k < 4) : p_img M 155 k = M 137 k := if_pos h
theorem img_156 {M : Nat → Nat → Int32} {k : Nat} (h : k < 24) : p_img M 156 k = M 140 k := if_pos h
theorem img_157 {M : Nat → Nat → Int32} {k : Nat} (h : k < 24) : p_img M 157 k = M 141 k := if_pos h
theorem img_158 {M : Nat → Nat → Int32} {k : Nat} (h : k < 24) : p_img M 158 k = M 142 k := if_pos h
theorem img_159 {M : Nat → Nat → Int32} {k : Nat} (h : k < 6) : p_img M 159 k = M 150 k := if_pos h
theorem img_160 {M : Nat → Nat → Int32} {k : Nat} (h : k < 6) : p_img M 160 k = M 151 k := if_pos h
theorem img_ipc {M : Nat → Nat → Int32} {s : Nat} (h : s < 4) : p_ipc (p_img M) s = p_pc M s := by unfold p_ipc p_pc; rw [img_155 h]
theorem img_ipl {M : Nat → Nat → Int32} : p_ipl (p_img M) = p_ppl M := rfl
section
variable {d c L n : Nat} {Q : Option Value → q_H → Prop} {I I' M : Nat → Nat → Int32} {r : Nat → Nat → Option Nat} {dk : Nat → Nat × Nat}
theorem wf_img (hW : p_wf M) : p_wf (p_img M) := by
  have esn : p_sn (p_img M) = p_sn M := by unfold p_sn; rw [img_5 (by decide)]
  have etx : p_tx (p_img M) = p_tx M := by unfold p_tx; rw [img_5 (by decide)]
  obtain ⟨v1, v2, v3, v4⟩ := hW.2.2.2.2.2.2.1
  refine ⟨by rw [img_5 (by decide)]; exact hW.1, w2 hW (fun a ha => img_o (by omega) (by omega)), w3 hW (img_5 (by decide)) (img_5 (by decide)), w4 hW (fun a ha => img_o (by omega) (by omega)) (img_5 (by decide)) (by omega), by rw [img_5 (by decide)]; exact hW.2.2.2.2.1, w6 hW (img_o (by decide) (by decide)) (img_5 (by decide)), ⟨by rw [img_5 (by decide)]; exact v1, by rw [etx, img_5 (by decide)]; exact v2, by rw [etx, img_32]; exact v2, fun t ht => ?_⟩, ⟨⟨1, by omega, img_27⟩, by rw [img_29]; exact hW.2.2.2.2.1, by rw [img_30]; exact hW.2.2.1.1, by rw [img_31]; exact hW.2.2.1.2, fun s hs => ?_⟩, w9 hW (fun a ha => img_o (by omega) (by omega)), w10 hW (img_o (by decide) (by decide))⟩
  · rw [etx] at ht
    have this := v4 t ht
    unfold p_lawok p_at p_cd at this ⊢
    rw [img_o (a := 153) (by decide) (by decide), img_o (a := 154) (by decide) (by decide)]
    exact this
  · rw [img_155 hs, img_ipc hs]
    obtain ⟨b1, b2⟩ := hW.2.1 s hs
    have h6 := (p_pc_eq hW hs).2
    refine ⟨b1, fun p hp => ?_⟩
    obtain ⟨g1, g2, g3, -⟩ := b2 p hp
    rw [img_156 (by omega), img_157 (by omega), img_158 (by omega)]
    exact ⟨g1, g2, g3⟩
theorem CR_img (hW : p_wf M) (hC : p_CR L r dk n I M) (hA : ∀ a, ¬(a = 32 ∨ a = 37 ∨ a = 40 ∨ a = 41 ∨ a = 80 ∨ a = 91 ∨ a = 102 ∨ a = 113 ∨ (88 ≤ a ∧ a ≤ 90) ∨ (99 ≤ a ∧ a ≤ 101) ∨ (110 ≤ a ∧ a ≤ 112) ∨ (121 ≤ a ∧ a ≤ 123)) → I' a = I a)
    (hB : ∀ s, s < 4 → (∀ k, k ≠ 4 → I' (80 + 11 * s) k = I (80 + 11 * s) k) ∧ I' (80 + 11 * s) 4 = I (80 + 11 * s) 3 ∧ ∀ j, j < 3 → ∀ p, p < 6 → I' (80 + 11 * s + 8 + j) p = I (80 + 11 * s + 2 + j) p)
    (hP : (∀ k, k ≠ 5 → I' 37 k = I 37 k) ∧ I' 37 5 = I 37 2 ∧ ∀ j, j < 2 → ∀ p, p < 6 → I' (40 + j) p = I (38 + j) p)
    (hT : (∀ k, k ≤ 14 → I' 32 k = I 32 k) ∧ I' 32 15 = 1 ∧ I' 32 16 = I 32 13 ∧ I' 32 17 = I 32 14 ∧ I' 32 18 = I 32 12) : p_CR L r dk n I' (p_img M) := by
  obtain ⟨a1, a2, a3, a4, a5, a6, a7, a8, a9, a10⟩ := hC.1
  obtain ⟨t1, t2, t3, t4, t5⟩ := hT
  obtain ⟨y1, y2, y3⟩ := hP
  refine ⟨⟨(t1 9 (by decide)).trans a1, (t1 10 (by decide)).trans a2, (t1 11 (by decide)).trans a3, (t1 12 (by decide)).trans a4, (t1 13 (by decide)).trans a5, (t1 14 (by decide)).trans a6, t2, t3.trans a5, t4.trans a6, t5.trans a4⟩, ?_, k3 hC (fun a ha => hA a (by omega)) (fun a ha => img_o (by omega) (by omega)) (img_5 (by decide)), k4 hC (fun a ha => hA a (by omega)) (fun a ha => img_o (by omega) (by omega)) (img_5 (by decide)), k5 hC (fun a ha => hA a (by omega)) (fun a ha => img_o (by omega) (by omega)), ?_, k7 hC (fun a ha => hA a (by omega)) (img_o (by decide) (by decide)) (img_5 (by decide)), k8 hC (fun a ha => hA a (by omega)) (img_o (by decide) (by decide)), hC.2.2.2.2.2.2.2.2⟩
  · intro s hs
    obtain ⟨⟨b1, b2⟩, b3, b4, b5⟩ := hC.2.1 s hs
    obtain ⟨g1, g2, g3⟩ := hB s hs
    have h6 := (p_pc_eq hW hs).2
    refine ⟨⟨?_, fun p hp => ?_⟩, (g1 0 (by decide)).trans b3, ?_, fun p hp => ?_⟩
    · rw [g1 3 (by decide), img_o (by decide) (by decide)]; exact b1
    · have epc : p_pc (p_img M) s = p_pc M s := by unfold p_pc; rw [img_o (by decide) (by decide)]
      rw [epc] at hp
      rw [hA (80 + 11 * s + 2) (by omega), hA (80 + 11 * s + 3) (by omega), hA (80 + 11 * s + 4) (by omega), hA (80 + 11 * s + 5) (by omega), hA (80 + 11 * s + 6) (by omega), img_o (a := 138) (by decide) (by decide), img_o (a := 139) (by decide) (by decide), img_o (a := 140) (by decide) (by decide), img_o (a := 141) (by decide) (by decide), img_o (a := 142) (by decide) (by decide)]
      exact b2 p hp
    · rw [g2, img_155 hs]; exact b1
    · rw [img_ipc hs] at hp
      obtain ⟨x0, x1, x2, -⟩ := b2 p hp
      have z0 := g3 0 (by decide) p (by omega)
      have z1 := g3 1 (by decide) p (by omega)
      have z2 := g3 2 (by decide) p (by omega)
      rw [img_156 (by omega), img_157 (by omega), img_158 (by omega)]
      exact ⟨z0.trans x0, z1.trans x1, z2.trans x2⟩
  · obtain ⟨g1, g2, g3, g4⟩ := hC.2.2.2.2.2.1
    have h6 := (p_ppl_eq hW).2
    have epl : p_ppl (p_img M) = p_ppl M := by unfold p_ppl; rw [img_5 (by decide)]
    refine ⟨by rw [y1 2 (by decide), img_5 (by decide)]; exact g1, fun p hp => ?_, by rw [y2, img_29]; exact g1, fun p hp => ?_⟩
    · rw [epl] at hp
      rw [hA 38 (by decide), hA 39 (by decide), img_o (a := 150) (by decide) (by decide), img_o (a := 151) (by decide) (by decide)]
      exact g2 p hp
    · rw [img_ipl] at hp
      obtain ⟨x0, x1⟩ := g2 p hp
      rw [img_159 (by omega), img_160 (by omega)]
      exact ⟨(y3 0 (by decide) p (by omega)).trans x0, (y3 1 (by decide) p (by omega)).trans x1⟩
theorem cpyn {f g : Nat → Int32} {m p : Nat} : va_cpy f g 0 0 m p = if p < m then f p else g p := by
  unfold va_cpy
  by_cases h : p < m
  · rw [if_pos ⟨Nat.zero_le _, by omega⟩, if_pos h, Nat.zero_add, Nat.sub_zero]
  · rw [if_neg (by omega), if_neg h]
set_option maxRecDepth 100000 in
theorem c_image (hW : p_wf M) (hC : p_CR L r dk n I M) (hQ : ∀ I', p_cc I I' → p_CR L r dk n I' (p_img M) → Q (some (.int (M 135 1))) (p_h L I' r dk n)) :
    q_wp (d + 9) c 7045 0 [.ref 32, q_jk] [] (p_h L I r dk n) Q := by
  have e9 := hC.1.1
  simp (disch := omega) only [r7045_0, r7045_1, r7045_2, r7045_3, r7045_4, r7045_7, r7045_8, r7045_11, r7045_12, r7045_13, r7045_16, r7045_19, r7045_22, r7045_23, r7045_26, r7045_29, r7045_30, r7045_31, r7045_34, r7045_37, r7045_38, r7045_39, r7045_42, r7045_45, r7045_46, r7045_47, r7045_50, r7045_53, r7045_54, r7045_55, r7045_58, r7045_59, r7045_62, r5005_0, r5005_1, r5005_2, r5005_5, r5005_8, r5005_9, r5005_10, r5005_11, r5005_12, r5005_15, r5005_16, r5005_19, r5005_20, r5005_21, r5005_22, r5005_23, r5005_26, r5005_27, r5005_28, r5005_29, r5005_31, r5005_34, r5005_37, r5005_40, r2004_0, r2004_1, r2004_2, r2004_5, r2004_8, r2004_9, r2004_12, r2004_13, r2004_14, r2004_17, r2004_18, r2004_20, r2004_23, r2004_24, r2004_27, r2004_28, r2004_29, r2004_32, r2004_33, r2004_35, r2004_38, q_tl_none, nw_o, q_up_fa, q_up_k, e9, b_eq0, b_eq1, b_0eq, ite_not, not_true_eq_false, not_false_eq_true, ↓reduceIte, va_rf_some, va_rf_none, cat_int, cat_ref, cat_null, cat_jk, q_cs_nil, q_cs_int, q_cs_ref, q_cs_long, q_tl_some, q_tl_none, nz_0, nz_1, nzn_0, nzn_1, nz_b, true_and, and_true, Nat.reduceLeDiff, Nat.reduceAdd, l_0, l_1, l_2, l_3, l_4, l_5, l_6, l_7, l_8, l_9, l_10, l_11, l_12, l_13, l_14, l_15, l_16, l_17, l_18, l_19, l_20, l_24, l_32, l_40, l_41, l_42, l_43, l_45, l_48, l_57, l_59, l_60, l_61, l_63, l_64, l_80, l_96, l_97, l_99, l_100, l_122, l_160, l_200, l_320, l_640, l_999, l_1000, l_1200, l_4000, l_99999, l_100000, l_100001, l_100002, l_100006, l_100010, l_252645135, l_858993459, l_1431655765, n_cl, n_lt, n_le, n_eq, n_in, n_add, n_mul, n_sub, n_div, n_mod, n_addneg, n_negl, n_nege, Nat.add_sub_cancel, d_ltT, d_ltF, d_leT, d_leF, d_eqT, d_eqF, ↓reduceIte, Nat.reduceLeDiff, Nat.reduceAdd, Nat.reduceMul, Nat.reduceSub, Nat.reduceLT, Nat.zero_add, Nat.add_zero, not_false_eq_true, pK_32, pK_33, pK_34, pK_35, pK_36, pK_37, pK_38, pK_39, pK_40, pK_41, pK_42, pK_43, pK_44, pR_32_0, pR_32_1, pR_32_2, pR_32_3, pR_32_4, pR_32_5, pR_32_6, pR_32_7, pR_32_8, pR_33_0, pR_33_1, pR_33_2, pR_33_3, pR_36_0, pR_36_1, pR_36_2, pR_36_3, pR_37_0, pR_37_1, pR_37_3, pR_37_4, pR_42_0, pR_42_3, pK_124, pK_125, pK_126, pK_127, pK_128, pK_129, pK_130, pK_131, pK_132, pK_133, pK_134, pR_124_0, pR_126_0, pR_128_0, pR_130_0, pR_134_0, pR_134_1, pK_69, pK_70, pK_71, pK_72, pK_73, pK_74, pK_75, pK_76, pK_77, pK_78, pK_79, pK_80, pK_81, pK_82, pK_83, pK_84, pK_85, pK_86, pK_87, pK_88, pK_89, pK_90, pK_91, pK_92, pK_93, pK_94, pK_95, pK_96, pK_97, pK_98, pK_99, pK_100, pK_101, pK_102, pK_103, pK_104, pK_105, pK_106, pK_107, pK_108, pK_109, pK_110, pK_111, pK_112, pK_113, pK_114, pK_115, pK_116, pK_117, pK_118, pK_119, pK_120, pK_121, pK_122, pK_123, pR_69_1, pR_69_2, pR_70_0, pR_70_1, pR_70_2, pR_70_3, pR_70_4, pR_76_0, pR_76_1, pR_76_2, pR_80_1, pR_80_2, pR_81_0, pR_81_1, pR_81_2, pR_81_3, pR_81_4, pR_87_0, pR_87_1, pR_87_2, pR_91_1, pR_91_2, pR_92_0, pR_92_1, pR_92_2, pR_92_3, pR_92_4, pR_98_0, pR_98_1, pR_98_2, pR_102_1, pR_102_2, pR_103_0, pR_103_1, pR_103_2, pR_103_3, pR_103_4, pR_109_0, pR_109_1, pR_109_2, pR_113_1, pR_113_2, pR_114_0, pR_114_1, pR_114_2, pR_114_3, pR_114_4, pR_120_0, pR_120_1, pR_120_2]
  refine hQ _ (fun a ha => by simp (disch := omega) only [nw_o, q_up_fa]) (CR_img hW hC (fun a ha => by simp (disch := omega) only [nw_o, q_up_fa]) (fun s hs => ?_) ⟨fun k hk => ?_, ?_, fun j hj p hp => ?_⟩ ⟨fun k hk => ?_, ?_, ?_, ?_, ?_⟩)
  · have : s = 0 ∨ s = 1 ∨ s = 2 ∨ s = 3 := by omega
    have hj3 : ∀ j, j < 3 → j = 0 ∨ j = 1 ∨ j = 2 := fun j hj => by omega
    rcases this with rfl | rfl | rfl | rfl
    all_goals
      refine ⟨fun k hk => by simp (disch := omega) only [nw_o, q_up_fa, q_up_k], by simp (disch := omega) only [nw_o, q_up_fa, q_up_k, q_up_same], fun j hj p hp => ?_⟩
      rcases hj3 j hj with rfl | rfl | rfl <;> simp (disch := omega) only [nw_o, nw_s, q_up_fa, q_up_k, cpy6, Nat.reduceAdd, Nat.reduceMul]
  · simp (disch := omega) only [nw_o, q_up_fa, q_up_k]
  · simp (disch := omega) only [nw_o, q_up_fa, q_up_k, q_up_same]
  · have : j = 0 ∨ j = 1 := by omega
    rcases this with rfl | rfl <;> simp (disch := omega) only [nw_o, nw_s, q_up_fa, q_up_k, cpy6, Nat.reduceAdd]
  · simp (disch := omega) only [nw_o, q_up_fa, q_up_k]
  · simp (disch := omega) only [nw_o, q_up_fa, q_up_k, q_up_same]; rfl
  · simp (disch := omega) only [nw_o, q_up_fa, q_up_k, q_up_same]
  · simp (disch := omega) only [nw_o, q_up_fa, q_up_k, q_up_same]
  · simp (disch := omega) only [nw_o, q_up_fa, q_up_k, q_up_same]
end
