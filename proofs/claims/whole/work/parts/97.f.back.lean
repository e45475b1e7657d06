/-! back -/
def p_bck (M : Nat → Nat → Int32) : Nat → Nat → Int32 := fun a k =>
  if a = 135 then (if k = 8 then M 135 30 else if k = 9 then M 135 31 else if k = 26 then M 135 32 else M 135 k)
  else if a = 140 then (if k < 24 ∧ k % 6 < p_ipc M (k / 6) then M 156 k else M 140 k)
  else if a = 141 then (if k < 24 ∧ k % 6 < p_ipc M (k / 6) then M 157 k else M 141 k)
  else if a = 142 then (if k < 24 ∧ k % 6 < p_ipc M (k / 6) then M 158 k else M 142 k)
  else if a = 150 then (if k < p_ipl M then M 159 k else M 150 k)
  else if a = 151 then (if k < p_ipl M then M 160 k else M 151 k) else M a k
def t_back (M : Nat → Nat → Int32) : Nat → Nat → Int32 := if M 135 27 = Int32.ofNat 0 then M else p_bck M
def a_back (M : Nat → Nat → Int32) : Int32 := if M 135 27 = Int32.ofNat 0 then -3 else M 135 1
theorem bck_o {M : Nat → Nat → Int32} {a : Nat} (h : a ≠ 135) (h' : ¬(140 ≤ a ∧ a ≤ 142)) (h'' : ¬(150 ≤ a ∧ a ≤ 151)) : p_bck M a = M a := by
  funext k
  unfold p_bck
  rw [if_neg h, if_neg (by omega), if_neg (by omega), if_neg (by omega), if_neg (by omega), if_neg (by omega)]
theorem bck_5 {M : Nat → Nat → Int32} {k : Nat} (h : k ≠ 8) (h' : k ≠ 9) (h'' : k ≠ 26) : p_bck M 135 k = M 135 k := by
  show (if k = 8 then _ else if k = 9 then _ else if k = 26 then _ else _) = _
  rw [if_neg h, if_neg h', if_neg h'']
theorem bck_8 {M : Nat → Nat → Int32} : p_bck M 135 8 = M 135 30 := rfl
theorem bck_9 {M : Nat → Nat → Int32} : p_bck M 135 9 = M 135 31 := rfl
theorem bck_26 {M : Nat → Nat → Int32} : p_bck M 135 26 = M 135 32 := rfl
theorem bck_f {M : Nat → Nat → Int32} {i k : Nat} (hi : i < 3) : p_bck M (140 + i) k = if k < 24 ∧ k % 6 < p_ipc M (k / 6) then M (156 + i) k else M (140 + i) k := by
  have : i = 0 ∨ i = 1 ∨ i = 2 := by omega
  rcases this with rfl | rfl | rfl <;> rfl
theorem bck_g {M : Nat → Nat → Int32} {i k : Nat} (hi : i < 2) : p_bck M (150 + i) k = if k < p_ipl M then M (159 + i) k else M (150 + i) k := by
  have : i = 0 ∨ i = 1 := by omega
  rcases this with rfl | rfl <;> rfl
theorem bck_s {M : Nat → Nat → Int32} {i s p : Nat} (hi : i < 3) (hs : s < 4) (hp : p < 6) : p_bck M (140 + i) (6 * s + p) = if p < p_ipc M s then M (156 + i) (6 * s + p) else M (140 + i) (6 * s + p) := by
  rw [bck_f hi, show (6 * s + p) % 6 = p by omega, show (6 * s + p) / 6 = s by omega]
  by_cases h : p < p_ipc M s
  · rw [if_pos h, if_pos ⟨by omega, h⟩]
  · rw [if_neg h, if_neg fun h' => h h'.2]
theorem p_ipc_eq {M : Nat → Nat → Int32} {s : Nat} (h : p_wf M) (hs : s < 4) : M 155 s = Int32.ofNat (p_ipc M s) ∧ p_ipc M s ≤ 6 := by
  obtain ⟨z, hz, e⟩ := (h.2.2.2.2.2.2.2.1.2.2.2.2 s hs).1
  unfold p_ipc
  rw [e, n_cl (by omega)]
  exact ⟨rfl, hz⟩
theorem p_ipl_eq {M : Nat → Nat → Int32} (h : p_wf M) : M 135 29 = Int32.ofNat (p_ipl M) ∧ p_ipl M ≤ 6 := by
  obtain ⟨z, hz, e⟩ := h.2.2.2.2.2.2.2.1.2.1
  unfold p_ipl
  rw [e, n_cl (by omega)]
  exact ⟨rfl, hz⟩
section
variable {d c L n : Nat} {Q : Option Value → q_H → Prop} {I I' M : Nat → Nat → Int32} {r : Nat → Nat → Option Nat} {dk : Nat → Nat × Nat}
theorem wf_bck (hW : p_wf M) : p_wf (p_bck M) := by
  have esn : p_sn (p_bck M) = p_sn M := by unfold p_sn; rw [bck_5 (by decide) (by decide) (by decide)]
  have etx : p_tx (p_bck M) = p_tx M := by unfold p_tx; rw [bck_5 (by decide) (by decide) (by decide)]
  obtain ⟨v1, v2, v3, v4⟩ := hW.2.2.2.2.2.2.1
  have w8' := hW.2.2.2.2.2.2.2.1
  refine ⟨by rw [bck_5 (by decide) (by decide) (by decide)]; exact hW.1, fun s hs => ?_, ⟨by rw [bck_8]; exact w8'.2.2.1, by rw [bck_9]; exact w8'.2.2.2.1⟩, w4 hW (fun a ha => bck_o (by omega) (by omega) (by omega)) (bck_5 (by decide) (by decide) (by decide)) (by omega), by rw [bck_5 (by decide) (by decide) (by decide)]; exact hW.2.2.2.2.1, w6 hW (bck_o (by decide) (by decide) (by decide)) (bck_5 (by decide) (by decide) (by decide)), ⟨by rw [bck_5 (by decide) (by decide) (by decide)]; exact v1, by rw [etx, bck_26]; exact v3, by rw [etx, bck_5 (by decide) (by decide) (by decide)]; exact v3, fun t ht => ?_⟩, w8 hW (fun a ha => bck_o (by omega) (by omega) (by omega)) (bck_5 (by decide) (by decide) (by decide)) (bck_5 (by decide) (by decide) (by decide)) (bck_5 (by decide) (by decide) (by decide)) (bck_5 (by decide) (by decide) (by decide)), w9 hW (fun a ha => bck_o (by omega) (by omega) (by omega)), w10 hW (bck_o (by decide) (by decide) (by decide))⟩
  · have epc : p_pc (p_bck M) s = p_pc M s := by unfold p_pc; rw [bck_o (by decide) (by decide) (by decide)]
    rw [epc, bck_o (a := 137) (by decide) (by decide) (by decide)]
    obtain ⟨b1, b2⟩ := hW.2.1 s hs
    refine ⟨b1, fun p hp => ?_⟩
    obtain ⟨g1, g2, g3, g4, g5⟩ := b2 p hp
    have h6 := (p_pc_eq hW hs).2
    have k2 := (w8'.2.2.2.2 s hs).2 p
    have f0 := bck_s (M := M) (i := 0) (by decide) hs (show p < 6 by omega)
    have f1 := bck_s (M := M) (i := 1) (by decide) hs (show p < 6 by omega)
    have f2 := bck_s (M := M) (i := 2) (by decide) hs (show p < 6 by omega)
    simp only [Nat.add_zero, Nat.reduceAdd] at f0 f1 f2
    unfold p_pwf
    rw [f0, f1, f2, bck_o (a := 138) (by decide) (by decide) (by decide), bck_o (a := 139) (by decide) (by decide) (by decide)]
    by_cases h : p < p_ipc M s
    · obtain ⟨y1, y2, y3⟩ := k2 h
      rw [if_pos h, if_pos h, if_pos h]
      exact ⟨y1, y2, y3, g4, g5⟩
    · rw [if_neg h, if_neg h, if_neg h]
      exact ⟨g1, g2, g3, g4, g5⟩
  · rw [etx] at ht
    have this := v4 t ht
    unfold p_lawok p_at p_cd at this ⊢
    rw [bck_o (a := 153) (by decide) (by decide) (by decide), bck_o (a := 154) (by decide) (by decide) (by decide)]
    exact this
theorem wf_back (hW : p_wf M) : p_wf (t_back M) := by
  unfold t_back
  split
  · exact hW
  · exact wf_bck hW
theorem CR_bck (hW : p_wf M) (hC : p_CR L r dk n I M) (hA : ∀ a, ¬(a = 32 ∨ a = 38 ∨ a = 39 ∨ (82 ≤ a ∧ a ≤ 84) ∨ (93 ≤ a ∧ a ≤ 95) ∨ (104 ≤ a ∧ a ≤ 106) ∨ (115 ≤ a ∧ a ≤ 117)) → I' a = I a)
    (hB : ∀ s, s < 4 → ∀ j, j < 3 → ∀ p, p < 6 → I' (80 + 11 * s + 2 + j) p = if p < p_ipc M s then I (80 + 11 * s + 8 + j) p else I (80 + 11 * s + 2 + j) p)
    (hP : ∀ j, j < 2 → ∀ p, p < 6 → I' (38 + j) p = if p < p_ipl M then I (40 + j) p else I (38 + j) p)
    (hT : (∀ k, k ≠ 12 → k ≠ 13 → k ≠ 14 → I' 32 k = I 32 k) ∧ I' 32 13 = I 32 16 ∧ I' 32 14 = I 32 17 ∧ I' 32 12 = I 32 18) : p_CR L r dk n I' (p_bck M) := by
  obtain ⟨a1, a2, a3, a4, a5, a6, a7, a8, a9, a10⟩ := hC.1
  obtain ⟨t1, t2, t3, t4⟩ := hT
  have b5 : ∀ k, k ≠ 8 → k ≠ 9 → k ≠ 26 → M 135 k = p_bck M 135 k := fun k x y z => (bck_5 x y z).symm
  refine ⟨⟨(t1 9 (by decide) (by decide) (by decide)).trans a1, (t1 10 (by decide) (by decide) (by decide)).trans a2, (t1 11 (by decide) (by decide) (by decide)).trans a3, t4.trans a10, t2.trans a8, t3.trans a9, (t1 15 (by decide) (by decide) (by decide)).trans a7, (t1 16 (by decide) (by decide) (by decide)).trans a8, (t1 17 (by decide) (by decide) (by decide)).trans a9, (t1 18 (by decide) (by decide) (by decide)).trans a10⟩, ?_, k3 hC (fun a ha => hA a (by omega)) (fun a ha => bck_o (by omega) (by omega) (by omega)) (bck_5 (by decide) (by decide) (by decide)), k4 hC (fun a ha => hA a (by omega)) (fun a ha => bck_o (by omega) (by omega) (by omega)) (bck_5 (by decide) (by decide) (by decide)), k5 hC (fun a ha => hA a (by omega)) (fun a ha => bck_o (by omega) (by omega) (by omega)), ?_, k7 hC (fun a ha => hA a (by omega)) (bck_o (by decide) (by decide) (by decide)) (bck_5 (by decide) (by decide) (by decide)), k8 hC (fun a ha => hA a (by omega)) (bck_o (by decide) (by decide) (by decide)), hC.2.2.2.2.2.2.2.2⟩
  · intro s hs
    obtain ⟨⟨b1, b2⟩, b3, b4, b5⟩ := hC.2.1 s hs
    have h6 := (p_pc_eq hW hs).2
    have epc : p_pc (p_bck M) s = p_pc M s := by unfold p_pc; rw [bck_o (by decide) (by decide) (by decide)]
    have eic : p_ipc (p_bck M) s = p_ipc M s := by unfold p_ipc; rw [bck_o (by decide) (by decide) (by decide)]
    refine ⟨⟨?_, fun p hp => ?_⟩, ?_, ?_, fun p hp => ?_⟩
    · rw [hA _ (by omega), bck_o (by decide) (by decide) (by decide)]; exact b1
    · rw [epc] at hp
      obtain ⟨x0, x1, x2, x3, x4⟩ := b2 p hp
      have z0 := hB s hs 0 (by decide) p (by omega)
      have z1 := hB s hs 1 (by decide) p (by omega)
      have z2 := hB s hs 2 (by decide) p (by omega)
      have f0 := bck_s (M := M) (i := 0) (by decide) hs (show p < 6 by omega)
      have f1 := bck_s (M := M) (i := 1) (by decide) hs (show p < 6 by omega)
      have f2 := bck_s (M := M) (i := 2) (by decide) hs (show p < 6 by omega)
      simp only [Nat.add_zero, Nat.reduceAdd, Nat.add_assoc] at f0 f1 f2 z0 z1 z2 x0 x1 x2 x3 x4 b5 ⊢
      have y3 := hA (80 + (11 * s + 5)) (by omega)
      have y4 := hA (80 + (11 * s + 6)) (by omega)
      rw [z0, z1, z2, f0, f1, f2, y3, y4, bck_o (a := 138) (by decide) (by decide) (by decide), bck_o (a := 139) (by decide) (by decide) (by decide)]
      by_cases h : p < p_ipc M s
      · obtain ⟨y1, y2, y3⟩ := b5 p h
        rw [if_pos h, if_pos h, if_pos h, if_pos h, if_pos h, if_pos h]
        exact ⟨y1, y2, y3, x3, x4⟩
      · rw [if_neg h, if_neg h, if_neg h, if_neg h, if_neg h, if_neg h]
        exact ⟨x0, x1, x2, x3, x4⟩
    · rw [hA _ (by omega)]; exact b3
    · rw [hA _ (by omega), bck_o (by decide) (by decide) (by decide)]; exact b4
    · rw [eic] at hp
      rw [hA _ (by omega), hA _ (by omega), hA _ (by omega), bck_o (a := 156) (by decide) (by decide) (by decide), bck_o (a := 157) (by decide) (by decide) (by decide), bck_o (a := 158) (by decide) (by decide) (by decide)]
      exact b5 p hp
  · obtain ⟨g1, g2, g3, g4⟩ := hC.2.2.2.2.2.1
    have h6 := (p_ppl_eq hW).2
    have epl : p_ppl (p_bck M) = p_ppl M := by unfold p_ppl; rw [bck_5 (by decide) (by decide) (by decide)]
    have eip : p_ipl (p_bck M) = p_ipl M := by unfold p_ipl; rw [bck_5 (by decide) (by decide) (by decide)]
    rw [hA 37 (by decide), hA 40 (by decide), hA 41 (by decide), epl, eip, bck_5 (by decide) (by decide) (by decide), bck_5 (by decide) (by decide) (by decide), bck_o (a := 159) (by decide) (by decide) (by decide), bck_o (a := 160) (by decide) (by decide) (by decide)]
    refine ⟨g1, fun p hp => ?_, g3, g4⟩
    have z0 := hP 0 (by decide) p (by omega)
    have z1 := hP 1 (by decide) p (by omega)
    have f0 := bck_g (M := M) (i := 0) (k := p) (by decide)
    have f1 := bck_g (M := M) (i := 1) (k := p) (by decide)
    simp only [Nat.add_zero, Nat.reduceAdd] at f0 f1 z0 z1
    rw [z0, z1, f0, f1]
    by_cases h : p < p_ipl M
    · rw [if_pos h, if_pos h, if_pos h, if_pos h]; exact g4 p h
    · rw [if_neg h, if_neg h, if_neg h, if_neg h]; exact g2 p hp
set_option maxRecDepth 100000 in
theorem c_back (hW : p_wf M) (hC : p_CR L r dk n I M) (hQ : ∀ I', p_cc I I' → p_CR L r dk n I' (t_back M) → Q (some (.int (a_back M))) (p_h L I' r dk n)) :
    q_wp (d + 9) c 7046 0 [.ref 32, q_jk] [] (p_h L I r dk n) Q := by
  unfold t_back a_back at hQ
  have e9 := hC.1.1
  have e15 := hC.1.2.2.2.2.2.2.1
  by_cases h : M 135 27 = Int32.ofNat 0
  · simp only [if_pos h] at hQ
    simp (disch := omega) only [r7046_0, r7046_1, r7046_4, r7046_7, r7046_9, e15, h, b_eq0, b_eq1, b_0eq, ite_not, not_true_eq_false, not_false_eq_true, ↓reduceIte, va_rf_some, va_rf_none, cat_int, cat_ref, cat_null, cat_jk, q_cs_nil, q_cs_int, q_cs_ref, q_cs_long, q_tl_some, q_tl_none, nz_0, nz_1, nzn_0, nzn_1, nz_b, true_and, and_true, Nat.reduceLeDiff, Nat.reduceAdd, l_0, l_1, l_2, l_3, l_4, l_5, l_6, l_7, l_8, l_9, l_10, l_11, l_12, l_13, l_14, l_15, l_16, l_17, l_18, l_19, l_20, l_24, l_32, l_40, l_41, l_42, l_43, l_45, l_48, l_57, l_59, l_60, l_61, l_63, l_64, l_80, l_96, l_97, l_99, l_100, l_122, l_160, l_200, l_320, l_640, l_999, l_1000, l_1200, l_4000, l_99999, l_100000, l_100001, l_100002, l_100006, l_100010, l_252645135, l_858993459, l_1431655765, n_cl, n_lt, n_le, n_eq, n_in, n_add, n_mul, n_sub, n_div, n_mod, n_addneg, n_negl, n_nege, Nat.add_sub_cancel, d_ltT, d_ltF, d_leT, d_leF, d_eqT, d_eqF, ↓reduceIte, Nat.reduceLeDiff, Nat.reduceAdd, Nat.reduceMul, Nat.reduceSub, Nat.reduceLT, Nat.zero_add, Nat.add_zero, not_false_eq_true, pK_32, pK_33, pK_34, pK_35, pK_36, pK_37, pK_38, pK_39, pK_40, pK_41, pK_42, pK_43, pK_44, pR_32_0, pR_32_1, pR_32_2, pR_32_3, pR_32_4, pR_32_5, pR_32_6, pR_32_7, pR_32_8, pR_33_0, pR_33_1, pR_33_2, pR_33_3, pR_36_0, pR_36_1, pR_36_2, pR_36_3, pR_37_0, pR_37_1, pR_37_3, pR_37_4, pR_42_0, pR_42_3, pK_124, pK_125, pK_126, pK_127, pK_128, pK_129, pK_130, pK_131, pK_132, pK_133, pK_134, pR_124_0, pR_126_0, pR_128_0, pR_130_0, pR_134_0, pR_134_1]
    exact hQ I (fun _ _ => rfl) hC
  · simp only [if_neg h] at hQ
    obtain ⟨i0, h0⟩ := p_ipc_eq hW (show 0 < 4 by decide)
    obtain ⟨i1, h1⟩ := p_ipc_eq hW (show 1 < 4 by decide)
    obtain ⟨i2, h2⟩ := p_ipc_eq hW (show 2 < 4 by decide)
    obtain ⟨i3, h3⟩ := p_ipc_eq hW (show 3 < 4 by decide)
    obtain ⟨i4, h4⟩ := p_ipl_eq hW
    have s0 : I 80 4 = Int32.ofNat (p_ipc M 0) := (hC.2.1 0 (by decide)).2.2.1.trans i0
    have s1 : I 91 4 = Int32.ofNat (p_ipc M 1) := (hC.2.1 1 (by decide)).2.2.1.trans i1
    have s2 : I 102 4 = Int32.ofNat (p_ipc M 2) := (hC.2.1 2 (by decide)).2.2.1.trans i2
    have s3 : I 113 4 = Int32.ofNat (p_ipc M 3) := (hC.2.1 3 (by decide)).2.2.1.trans i3
    have s4 : I 37 5 = Int32.ofNat (p_ipl M) := hC.2.2.2.2.2.1.2.2.1.trans i4
    simp (disch := omega) only [r7046_0, r7046_1, r7046_4, r7046_7, r7046_9, r7046_10, r7046_11, r7046_12, r7046_13, r7046_14, r7046_17, r7046_18, r7046_21, r7046_22, r7046_23, r7046_26, r7046_29, r7046_32, r7046_33, r7046_36, r7046_39, r7046_40, r7046_41, r7046_44, r7046_47, r7046_48, r7046_49, r7046_52, r7046_55, r7046_56, r7046_57, r7046_60, r7046_63, r7046_64, r7046_67, r5006_0, r5006_1, r5006_2, r5006_3, r5006_4, r5006_7, r5006_8, r5006_11, r5006_12, r5006_13, r5006_14, r5006_15, r5006_18, r5006_19, r5006_20, r5006_21, r5006_22, r5006_25, r5006_28, r5006_31, r5006_34, r2005_0, r2005_1, r2005_4, r2005_5, r2005_6, r2005_9, r2005_10, r2005_11, r2005_14, r2005_17, r2005_18, r2005_21, r2005_22, r2005_23, r2005_26, r2005_27, r2005_28, r2005_31, r2005_34, q_tl_none, nw_o, q_up_fa, q_up_k, e9, e15, h, s0, s1, s2, s3, s4, b_eq0, b_eq1, b_0eq, ite_not, not_true_eq_false, not_false_eq_true, ↓reduceIte, va_rf_some, va_rf_none, cat_int, cat_ref, cat_null, cat_jk, q_cs_nil, q_cs_int, q_cs_ref, q_cs_long, q_tl_some, q_tl_none, nz_0, nz_1, nzn_0, nzn_1, nz_b, true_and, and_true, Nat.reduceLeDiff, Nat.reduceAdd, l_0, l_1, l_2, l_3, l_4, l_5, l_6, l_7, l_8, l_9, l_10, l_11, l_12, l_13, l_14, l_15, l_16, l_17, l_18, l_19, l_20, l_24, l_32, l_40, l_41, l_42, l_43, l_45, l_48, l_57, l_59, l_60, l_61, l_63, l_64, l_80, l_96, l_97, l_99, l_100, l_122, l_160, l_200, l_320, l_640, l_999, l_1000, l_1200, l_4000, l_99999, l_100000, l_100001, l_100002, l_100006, l_100010, l_252645135, l_858993459, l_1431655765, n_cl, n_lt, n_le, n_eq, n_in, n_add, n_mul, n_sub, n_div, n_mod, n_addneg, n_negl, n_nege, Nat.add_sub_cancel, d_ltT, d_ltF, d_leT, d_leF, d_eqT, d_eqF, ↓reduceIte, Nat.reduceLeDiff, Nat.reduceAdd, Nat.reduceMul, Nat.reduceSub, Nat.reduceLT, Nat.zero_add, Nat.add_zero, not_false_eq_true, pK_32, pK_33, pK_34, pK_35, pK_36, pK_37, pK_38, pK_39, pK_40, pK_41, pK_42, pK_43, pK_44, pR_32_0, pR_32_1, pR_32_2, pR_32_3, pR_32_4, pR_32_5, pR_32_6, pR_32_7, pR_32_8, pR_33_0, pR_33_1, pR_33_2, pR_33_3, pR_36_0, pR_36_1, pR_36_2, pR_36_3, pR_37_0, pR_37_1, pR_37_3, pR_37_4, pR_42_0, pR_42_3, pK_124, pK_125, pK_126, pK_127, pK_128, pK_129, pK_130, pK_131, pK_132, pK_133, pK_134, pR_124_0, pR_126_0, pR_128_0, pR_130_0, pR_134_0, pR_134_1, pK_69, pK_70, pK_71, pK_72, pK_73, pK_74, pK_75, pK_76, pK_77, pK_78, pK_79, pK_80, pK_81, pK_82, pK_83, pK_84, pK_85, pK_86, pK_87, pK_88, pK_89, pK_90, pK_91, pK_92, pK_93, pK_94, pK_95, pK_96, pK_97, pK_98, pK_99, pK_100, pK_101, pK_102, pK_103, pK_104, pK_105, pK_106, pK_107, pK_108, pK_109, pK_110, pK_111, pK_112, pK_113, pK_114, pK_115, pK_116, pK_117, pK_118, pK_119, pK_120, pK_121, pK_122, pK_123, pR_69_1, pR_69_2, pR_70_0, pR_70_1, pR_70_2, pR_70_3, pR_70_4, pR_76_0, pR_76_1, pR_76_2, pR_80_1, pR_80_2, pR_81_0, pR_81_1, pR_81_2, pR_81_3, pR_81_4, pR_87_0, pR_87_1, pR_87_2, pR_91_1, pR_91_2, pR_92_0, pR_92_1, pR_92_2, pR_92_3, pR_92_4, pR_98_0, pR_98_1, pR_98_2, pR_102_1, pR_102_2, pR_103_0, pR_103_1, pR_103_2, pR_103_3, pR_103_4, pR_109_0, pR_109_1, pR_109_2, pR_113_1, pR_113_2, pR_114_0, pR_114_1, pR_114_2, pR_114_3, pR_114_4, pR_120_0, pR_120_1, pR_120_2]
    refine hQ _ (fun a ha => by simp (disch := omega) only [nw_o, q_up_fa]) (CR_bck hW hC (fun a ha => by simp (disch := omega) only [nw_o, q_up_fa]) (fun s hs j hj p hp => ?_) (fun j hj p hp => ?_) ⟨fun k k1 k2 k3 => ?_, ?_, ?_, ?_⟩)
    · have : s = 0 ∨ s = 1 ∨ s = 2 ∨ s = 3 := by omega
      have hj3 : j = 0 ∨ j = 1 ∨ j = 2 := by omega
      rcases this with rfl | rfl | rfl | rfl <;> rcases hj3 with rfl | rfl | rfl <;> simp (disch := omega) only [nw_o, nw_s, q_up_fa, q_up_k, cpyn, Nat.reduceAdd, Nat.reduceMul]
    · have : j = 0 ∨ j = 1 := by omega
      rcases this with rfl | rfl <;> simp (disch := omega) only [nw_o, nw_s, q_up_fa, q_up_k, cpyn, Nat.reduceAdd]
    · simp (disch := omega) only [nw_o, q_up_fa, q_up_k]
    · simp (disch := omega) only [nw_o, q_up_fa, q_up_k, q_up_same]
    · simp (disch := omega) only [nw_o, q_up_fa, q_up_k, q_up_same]
    · simp (disch := omega) only [nw_o, q_up_fa, q_up_k, q_up_same]
theorem m_bck1 {J : Nat → Nat → Int32} (hW : p_wf M) (h155 : J 155 = M 155) (hQ : ∀ I', (∀ a, ¬(140 ≤ a ∧ a ≤ 142) → I' a = J a) → (∀ i, i < 3 → ∀ j, I' (140 + i) j = if j < 24 ∧ j % 6 < p_ipc M (j / 6) then J (156 + i) j else J (140 + i) j) → q_wp (d + 1) c 8089 100 [.ref 135, .int (Int32.ofNat 24)] [] (p_h L I' r dk n) Q) :
    ∀ (m k : Nat) (I : Nat → Nat → Int32), k + m = 24 → (∀ a, ¬(140 ≤ a ∧ a ≤ 142) → I a = J a) → (∀ i, i < 3 → ∀ j, I (140 + i) j = if j < k ∧ j % 6 < p_ipc M (j / 6) then J (156 + i) j else J (140 + i) j) → q_wp (d + 1) c 8089 36 [.ref 135, .int (Int32.ofNat k)] [] (p_h L I r dk n) Q
  | 0, k, I, hk, h1, h2 => by
    obtain rfl : k = 24 := hk
    rw [r8089_36]
    simp (disch := omega) only [r8089_37, r8089_39, va_rf_some, va_rf_none, cat_int, cat_ref, cat_null, cat_jk, q_cs_nil, q_cs_int, q_cs_ref, q_cs_long, q_tl_some, q_tl_none, nz_0, nz_1, nzn_0, nzn_1, nz_b, true_and, and_true, Nat.reduceLeDiff, Nat.reduceAdd, l_0, l_1, l_2, l_3, l_4, l_5, l_6, l_7, l_8, l_9, l_10, l_11, l_12, l_13, l_14, l_15, l_16, l_17, l_18, l_19, l_20, l_24, l_32, l_40, l_41, l_42, l_43, l_45, l_48, l_57, l_59, l_60, l_61, l_63, l_64, l_80, l_96, l_97, l_99, l_100, l_122, l_160, l_200, l_320, l_640, l_999, l_1000, l_1200, l_4000, l_99999, l_100000, l_100001, l_100002, l_100006, l_100010, l_252645135, l_858993459, l_1431655765, n_cl, n_lt, n_le, n_eq, n_in, n_add, n_mul, n_sub, n_div, n_mod, n_addneg, n_negl, n_nege, Nat.add_sub_cancel, d_ltT, d_ltF, d_leT, d_leF, d_eqT, d_eqF, ↓reduceIte, Nat.reduceLeDiff, Nat.reduceAdd, Nat.reduceMul, Nat.reduceSub, Nat.reduceLT, Nat.zero_add, Nat.add_zero, not_false_eq_true, pK_135, pK_136, pK_137, pK_138, pK_139, pK_140, pK_141, pK_142, pK_143, pK_144, pK_145, pK_146, pK_147, pK_148, pK_149, pK_150, pK_151, pK_152, pK_153, pK_154, pK_155, pK_156, pK_157, pK_158, pK_159, pK_160, pK_161, pK_162, pK_163, pK_164, pK_165, pK_166, pK_167, pK_168, pK_169, pK_170, pK_171, pK_172, pK_173, pK_174, pK_175, pK_176, pK_177, pK_178, pR_135_0, pR_135_2, pR_135_3, pR_135_4, pR_135_5, pR_135_6, pR_135_7, pR_135_11, pR_135_12, pR_135_13, pR_135_14, pR_135_15, pR_135_16, pR_135_17, pR_135_19, pR_135_20, pR_135_21, pR_135_23, pR_135_24, pR_135_33, pR_135_34, pR_135_35, pR_135_36, pR_135_37, pR_135_38, pR_135_39, pR_135_40, pR_135_41, pR_135_46, pR_135_47, pR_135_51, pR_135_52, pR_135_53, pR_135_54, pR_135_55, pR_135_56, pR_135_57, pR_135_58, pR_135_59, pR_135_61, pR_135_62, pR_135_63, pR_135_64]
    exact hQ I h1 h2
  | m + 1, k, I, hk, h1, h2 => by
    obtain ⟨ei, h6⟩ := p_ipc_eq hW (show k / 6 < 4 by omega)
    have e155 : I 155 (k / 6) = Int32.ofNat (p_ipc M (k / 6)) := by rw [h1 155 (by decide), h155]; exact ei
    have y : ∀ a, ¬(140 ≤ a ∧ a ≤ 142) → I a k = J a k := fun a ha => by rw [h1 a ha]
    rw [r8089_36]
    by_cases hc : k % 6 < p_ipc M (k / 6)
    · simp (disch := omega) only [r8089_37, r8089_39, r8089_42, r8089_43, r8089_45, r8089_46, r8089_47, r8089_50, r8089_51, r8089_53, r8089_54, r8089_55, r8089_58, r8089_59, r8089_62, r8089_63, r8089_64, r8089_67, r8089_68, r8089_69, r8089_70, r8089_71, r8089_74, r8089_75, r8089_76, r8089_79, r8089_80, r8089_81, r8089_82, r8089_83, r8089_86, r8089_87, r8089_88, r8089_91, r8089_92, r8089_93, r8089_94, r8089_97, q_up_a, e155, j_int, va_rf_some, va_rf_none, cat_int, cat_ref, cat_null, cat_jk, q_cs_nil, q_cs_int, q_cs_ref, q_cs_long, q_tl_some, q_tl_none, nz_0, nz_1, nzn_0, nzn_1, nz_b, true_and, and_true, Nat.reduceLeDiff, Nat.reduceAdd, l_0, l_1, l_2, l_3, l_4, l_5, l_6, l_7, l_8, l_9, l_10, l_11, l_12, l_13, l_14, l_15, l_16, l_17, l_18, l_19, l_20, l_24, l_32, l_40, l_41, l_42, l_43, l_45, l_48, l_57, l_59, l_60, l_61, l_63, l_64, l_80, l_96, l_97, l_99, l_100, l_122, l_160, l_200, l_320, l_640, l_999, l_1000, l_1200, l_4000, l_99999, l_100000, l_100001, l_100002, l_100006, l_100010, l_252645135, l_858993459, l_1431655765, n_cl, n_lt, n_le, n_eq, n_in, n_add, n_mul, n_sub, n_div, n_mod, n_addneg, n_negl, n_nege, Nat.add_sub_cancel, d_ltT, d_ltF, d_leT, d_leF, d_eqT, d_eqF, ↓reduceIte, Nat.reduceLeDiff, Nat.reduceAdd, Nat.reduceMul, Nat.reduceSub, Nat.reduceLT, Nat.zero_add, Nat.add_zero, not_false_eq_true, pK_135, pK_136, pK_137, pK_138, pK_139, pK_140, pK_141, pK_142, pK_143, pK_144, pK_145, pK_146, pK_147, pK_148, pK_149, pK_150, pK_151, pK_152, pK_153, pK_154, pK_155, pK_156, pK_157, pK_158, pK_159, pK_160, pK_161, pK_162, pK_163, pK_164, pK_165, pK_166, pK_167, pK_168, pK_169, pK_170, pK_171, pK_172, pK_173, pK_174, pK_175, pK_176, pK_177, pK_178, pR_135_0, pR_135_2, pR_135_3, pR_135_4, pR_135_5, pR_135_6, pR_135_7, pR_135_11, pR_135_12, pR_135_13, pR_135_14, pR_135_15, pR_135_16, pR_135_17, pR_135_19, pR_135_20, pR_135_21, pR_135_23, pR_135_24, pR_135_33, pR_135_34, pR_135_35, pR_135_36, pR_135_37, pR_135_38, pR_135_39, pR_135_40, pR_135_41, pR_135_46, pR_135_47, pR_135_51, pR_135_52, pR_135_53, pR_135_54, pR_135_55, pR_135_56, pR_135_57, pR_135_58, pR_135_59, pR_135_61, pR_135_62, pR_135_63, pR_135_64]
      refine m_bck1 hW h155 hQ m (k + 1) _ (by omega) (fun a ha => by rw [q_up_fa (by omega), q_up_fa (by omega), q_up_fa (by omega)]; exact h1 a ha) fun i hi j => ?_
      have : i = 0 ∨ i = 1 ∨ i = 2 := by omega
      by_cases e : j = k
      · subst e
        rw [if_pos ⟨by omega, hc⟩]
        rcases this with rfl | rfl | rfl <;> simp (disch := omega) only [q_up_fa, q_up_same, Nat.add_zero, Nat.reduceAdd, y]
      · have := h2 i hi j
        rw [q_up_a' e, q_up_a' e, q_up_a' e, this]
        by_cases h : j < k ∧ j % 6 < p_ipc M (j / 6)
        · rw [if_pos h, if_pos ⟨by omega, h.2⟩]
        · rw [if_neg h, if_neg fun h' => h ⟨by omega, h'.2⟩]
    · simp (disch := omega) only [r8089_37, r8089_39, r8089_42, r8089_43, r8089_45, r8089_46, r8089_47, r8089_50, r8089_51, r8089_53, r8089_54, r8089_55, r8089_94, r8089_97, e155, j_int, va_rf_some, va_rf_none, cat_int, cat_ref, cat_null, cat_jk, q_cs_nil, q_cs_int, q_cs_ref, q_cs_long, q_tl_some, q_tl_none, nz_0, nz_1, nzn_0, nzn_1, nz_b, true_and, and_true, Nat.reduceLeDiff, Nat.reduceAdd, l_0, l_1, l_2, l_3, l_4, l_5, l_6, l_7, l_8, l_9, l_10, l_11, l_12, l_13, l_14, l_15, l_16, l_17, l_18, l_19, l_20, l_24, l_32, l_40, l_41, l_42, l_43, l_45, l_48, l_57, l_59, l_60, l_61, l_63, l_64, l_80, l_96, l_97, l_99, l_100, l_122, l_160, l_200, l_320, l_640, l_999, l_1000, l_1200, l_4000, l_99999, l_100000, l_100001, l_100002, l_100006, l_100010, l_252645135, l_858993459, l_1431655765, n_cl, n_lt, n_le, n_eq, n_in, n_add, n_mul, n_sub, n_div, n_mod, n_addneg, n_negl, n_nege, Nat.add_sub_cancel, d_ltT, d_ltF, d_leT, d_leF, d_eqT, d_eqF, ↓reduceIte, Nat.reduceLeDiff, Nat.reduceAdd, Nat.reduceMul, Nat.reduceSub, Nat.reduceLT, Nat.zero_add, Nat.add_zero, not_false_eq_true, pK_135, pK_136, pK_137, pK_138, pK_139, pK_140, pK_141, pK_142, pK_143, pK_144, pK_145, pK_146, pK_147, pK_148, pK_149, pK_150, pK_151, pK_152, pK_153, pK_154, pK_155, pK_156, pK_157, pK_158, pK_159, pK_160, pK_161, pK_162, pK_163, pK_164, pK_165, pK_166, pK_167, pK_168, pK_169, pK_170, pK_171, pK_172, pK_173, pK_174, pK_175, pK_176, pK_177, pK_178, pR_135_0, pR_135_2, pR_135_3, pR_135_4, pR_135_5, pR_135_6, pR_135_7, pR_135_11, pR_135_12, pR_135_13, pR_135_14, pR_135_15, pR_135_16, pR_135_17, pR_135_19, pR_135_20, pR_135_21, pR_135_23, pR_135_24, pR_135_33, pR_135_34, pR_135_35, pR_135_36, pR_135_37, pR_135_38, pR_135_39, pR_135_40, pR_135_41, pR_135_46, pR_135_47, pR_135_51, pR_135_52, pR_135_53, pR_135_54, pR_135_55, pR_135_56, pR_135_57, pR_135_58, pR_135_59, pR_135_61, pR_135_62, pR_135_63, pR_135_64]
      refine m_bck1 hW h155 hQ m (k + 1) _ (by omega) h1 fun i hi j => ?_
      rw [h2 i hi j]
      by_cases e : j = k
      · subst e
        rw [if_neg fun h => hc h.2, if_neg fun h => hc h.2]
      · by_cases h : j < k ∧ j % 6 < p_ipc M (j / 6)
        · rw [if_pos h, if_pos ⟨by omega, h.2⟩]
        · rw [if_neg h, if_neg fun h' => h ⟨by omega, h'.2⟩]
theorem m_bck2 {J : Nat → Nat → Int32} {w : Nat} (h6 : w ≤ 6) (h29 : J 135 29 = Int32.ofNat w) (hQ : ∀ I', (∀ a, ¬(150 ≤ a ∧ a ≤ 151) → I' a = J a) → (∀ i, i < 2 → ∀ j, I' (150 + i) j = if j < w then J (159 + i) j else J (150 + i) j) → q_wp (d + 1) c 8089 140 [.ref 135, .int (Int32.ofNat w)] [] (p_h L I' r dk n) Q) :
    ∀ (m k : Nat) (I : Nat → Nat → Int32), k + m = w → (∀ a, ¬(150 ≤ a ∧ a ≤ 151) → I a = J a) → (∀ i, i < 2 → ∀ j, I (150 + i) j = if j < k then J (159 + i) j else J (150 + i) j) → q_wp (d + 1) c 8089 102 [.ref 135, .int (Int32.ofNat k)] [] (p_h L I r dk n) Q
  | 0, k, I, hk, h1, h2 => by
    obtain rfl : k = w := hk
    have e29 : I 135 29 = Int32.ofNat k := by rw [h1 135 (by decide)]; exact h29
    rw [r8089_102]
    simp (disch := omega) only [r8089_103, r8089_104, r8089_107, e29, va_rf_some, va_rf_none, cat_int, cat_ref, cat_null, cat_jk, q_cs_nil, q_cs_int, q_cs_ref, q_cs_long, q_tl_some, q_tl_none, nz_0, nz_1, nzn_0, nzn_1, nz_b, true_and, and_true, Nat.reduceLeDiff, Nat.reduceAdd, l_0, l_1, l_2, l_3, l_4, l_5, l_6, l_7, l_8, l_9, l_10, l_11, l_12, l_13, l_14, l_15, l_16, l_17, l_18, l_19, l_20, l_24, l_32, l_40, l_41, l_42, l_43, l_45, l_48, l_57, l_59, l_60, l_61, l_63, l_64, l_80, l_96, l_97, l_99, l_100, l_122, l_160, l_200, l_320, l_640, l_999, l_1000, l_1200, l_4000, l_99999, l_100000, l_100001, l_100002, l_100006, l_100010, l_252645135, l_858993459, l_1431655765, n_cl, n_lt, n_le, n_eq, n_in, n_add, n_mul, n_sub, n_div, n_mod, n_addneg, n_negl, n_nege, Nat.add_sub_cancel, d_ltT, d_ltF, d_leT, d_leF, d_eqT, d_eqF, ↓reduceIte, Nat.reduceLeDiff, Nat.reduceAdd, Nat.reduceMul, Nat.reduceSub, Nat.reduceLT, Nat.zero_add, Nat.add_zero, not_false_eq_true, pK_135, pK_136, pK_137, pK_138, pK_139, pK_140, pK_141, pK_142, pK_143, pK_144, pK_145, pK_146, pK_147, pK_148, pK_149, pK_150, pK_151, pK_152, pK_153, pK_154, pK_155, pK_156, pK_157, pK_158, pK_159, pK_160, pK_161, pK_162, pK_163, pK_164, pK_165, pK_166, pK_167, pK_168, pK_169, pK_170, pK_171, pK_172, pK_173, pK_174, pK_175, pK_176, pK_177, pK_178, pR_135_0, pR_135_2, pR_135_3, pR_135_4, pR_135_5, pR_135_6, pR_135_7, pR_135_11, pR_135_12, pR_135_13, pR_135_14, pR_135_15, pR_135_16, pR_135_17, pR_135_19, pR_135_20, pR_135_21, pR_135_23, pR_135_24, pR_135_33, pR_135_34, pR_135_35, pR_135_36, pR_135_37, pR_135_38, pR_135_39, pR_135_40, pR_135_41, pR_135_46, pR_135_47, pR_135_51, pR_135_52, pR_135_53, pR_135_54, pR_135_55, pR_135_56, pR_135_57, pR_135_58, pR_135_59, pR_135_61, pR_135_62, pR_135_63, pR_135_64]
    exact hQ I h1 h2
  | m + 1, k, I, hk, h1, h2 => by
    have e29 : I 135 29 = Int32.ofNat w := by rw [h1 135 (by decide)]; exact h29
    rw [r8089_102]
    simp (disch := omega) only [r8089_103, r8089_104, r8089_107, r8089_110, r8089_111, r8089_114, r8089_115, r8089_116, r8089_119, r8089_120, r8089_121, r8089_122, r8089_123, r8089_126, r8089_127, r8089_128, r8089_131, r8089_132, r8089_133, r8089_134, r8089_137, q_up_a, e29, va_rf_some, va_rf_none, cat_int, cat_ref, cat_null, cat_jk, q_cs_nil, q_cs_int, q_cs_ref, q_cs_long, q_tl_some, q_tl_none, nz_0, nz_1, nzn_0, nzn_1, nz_b, true_and, and_true, Nat.reduceLeDiff, Nat.reduceAdd, l_0, l_1, l_2, l_3, l_4, l_5, l_6, l_7, l_8, l_9, l_10, l_11, l_12, l_13, l_14, l_15, l_16, l_17, l_18, l_19, l_20, l_24, l_32, l_40, l_41, l_42, l_43, l_45, l_48, l_57, l_59, l_60, l_61, l_63, l_64, l_80, l_96, l_97, l_99, l_100, l_122, l_160, l_200, l_320, l_640, l_999, l_1000, l_1200, l_4000, l_99999, l_100000, l_100001, l_100002, l_100006, l_100010, l_252645135, l_858993459, l_1431655765, n_cl, n_lt, n_le, n_eq, n_in, n_add, n_mul, n_sub, n_div, n_mod, n_addneg, n_negl, n_nege, Nat.add_sub_cancel, d_ltT, d_ltF, d_leT, d_leF, d_eqT, d_eqF, ↓reduceIte, Nat.reduceLeDiff, Nat.reduceAdd, Nat.reduceMul, Nat.reduceSub, Nat.reduceLT, Nat.zero_add, Nat.add_zero, not_false_eq_true, pK_135, pK_136, pK_137, pK_138, pK_139, pK_140, pK_141, pK_142, pK_143, pK_144, pK_145, pK_146, pK_147, pK_148, pK_149, pK_150, pK_151, pK_152, pK_153, pK_154, pK_155, pK_156, pK_157, pK_158, pK_159, pK_160, pK_161, pK_162, pK_163, pK_164, pK_165, pK_166, pK_167, pK_168, pK_169, pK_170, pK_171, pK_172, pK_173, pK_174, pK_175, pK_176, pK_177, pK_178, pR_135_0, pR_135_2, pR_135_3, pR_135_4, pR_135_5, pR_135_6, pR_135_7, pR_135_11, pR_135_12, pR_135_13, pR_135_14, pR_135_15, pR_135_16, pR_135_17, pR_135_19, pR_135_20, pR_135_21, pR_135_23, pR_135_24, pR_135_33, pR_135_34, pR_135_35, pR_135_36, pR_135_37, pR_135_38, pR_135_39, pR_135_40, pR_135_41, pR_135_46, pR_135_47, pR_135_51, pR_135_52, pR_135_53, pR_135_54, pR_135_55, pR_135_56, pR_135_57, pR_135_58, pR_135_59, pR_135_61, pR_135_62, pR_135_63, pR_135_64]
    refine m_bck2 h6 h29 hQ m (k + 1) _ (by omega) (fun a ha => by rw [q_up_fa (by omega), q_up_fa (by omega)]; exact h1 a ha) fun i hi j => ?_
    have : i = 0 ∨ i = 1 := by omega
    have y : ∀ a, ¬(150 ≤ a ∧ a ≤ 151) → I a k = J a k := fun a ha => by rw [h1 a ha]
    by_cases e : j = k
    · subst e
      rw [if_pos (by omega)]
      rcases this with rfl | rfl <;> simp (disch := omega) only [q_up_fa, q_up_same, Nat.add_zero, Nat.reduceAdd, y]
    · have := h2 i hi j
      rw [q_up_a' e, q_up_a' e, this]
      by_cases h : j < k
      · rw [if_pos h, if_pos (by omega)]
      · rw [if_neg h, if_neg (by omega)]
theorem m_back (hW : p_wf M) (hM : p_MR I M) (hQ : ∀ I', p_mc I I' → p_MR I' (t_back M) → Q (some (.int (a_back M))) (p_h L I' r dk n)) :
    q_wp (d + 9) c 8089 0 [.ref 135, q_jk] [] (p_h L I r dk n) Q := by
  unfold t_back a_back at hQ
  have e27 := hM.2 27 (by decide)
  by_cases h : M 135 27 = Int32.ofNat 0
  · simp only [if_pos h] at hQ
    simp (disch := omega) only [r8089_0, r8089_1, r8089_4, r8089_7, r8089_9, e27, h, b_eq0, b_eq1, b_0eq, ite_not, not_true_eq_false, not_false_eq_true, ↓reduceIte, va_rf_some, va_rf_none, cat_int, cat_ref, cat_null, cat_jk, q_cs_nil, q_cs_int, q_cs_ref, q_cs_long, q_tl_some, q_tl_none, nz_0, nz_1, nzn_0, nzn_1, nz_b, true_and, and_true, Nat.reduceLeDiff, Nat.reduceAdd, l_0, l_1, l_2, l_3, l_4, l_5, l_6, l_7, l_8, l_9, l_10, l_11, l_12, l_13, l_14, l_15, l_16, l_17, l_18, l_19, l_20, l_24, l_32, l_40, l_41, l_42, l_43, l_45, l_48, l_57, l_59, l_60, l_61, l_63, l_64, l_80, l_96, l_97, l_99, l_100, l_122, l_160, l_200, l_320, l_640, l_999, l_1000, l_1200, l_4000, l_99999, l_100000, l_100001, l_100002, l_100006, l_100010, l_252645135, l_858993459, l_1431655765, n_cl, n_lt, n_le, n_eq, n_in, n_add, n_mul, n_sub, n_div, n_mod, n_addneg, n_negl, n_nege, Nat.add_sub_cancel, d_ltT, d_ltF, d_leT, d_leF, d_eqT, d_eqF, ↓reduceIte, Nat.reduceLeDiff, Nat.reduceAdd, Nat.reduceMul, Nat.reduceSub, Nat.reduceLT, Nat.zero_add, Nat.add_zero, not_false_eq_true, pK_135, pK_136, pK_137, pK_138, pK_139, pK_140, pK_141, pK_142, pK_143, pK_144, pK_145, pK_146, pK_147, pK_148, pK_149, pK_150, pK_151, pK_152, pK_153, pK_154, pK_155, pK_156, pK_157, pK_158, pK_159, pK_160, pK_161, pK_162, pK_163, pK_164, pK_165, pK_166, pK_167, pK_168, pK_169, pK_170, pK_171, pK_172, pK_173, pK_174, pK_175, pK_176, pK_177, pK_178, pR_135_0, pR_135_2, pR_135_3, pR_135_4, pR_135_5, pR_135_6, pR_135_7, pR_135_11, pR_135_12, pR_135_13, pR_135_14, pR_135_15, pR_135_16, pR_135_17, pR_135_19, pR_135_20, pR_135_21, pR_135_23, pR_135_24, pR_135_33, pR_135_34, pR_135_35, pR_135_36, pR_135_37, pR_135_38, pR_135_39, pR_135_40, pR_135_41, pR_135_46, pR_135_47, pR_135_51, pR_135_52, pR_135_53, pR_135_54, pR_135_55, pR_135_56, pR_135_57, pR_135_58, pR_135_59, pR_135_61, pR_135_62, pR_135_63, pR_135_64]
    exact hQ I (fun _ _ => rfl) hM
  · simp only [if_neg h] at hQ
    have e30 := hM.2 30 (by decide)
    have e31 := hM.2 31 (by decide)
    have e32 := hM.2 32 (by decide)
    simp (disch := omega) only [r8089_0, r8089_1, r8089_4, r8089_7, r8089_9, r8089_10, r8089_11, r8089_12, r8089_15, r8089_18, r8089_19, r8089_20, r8089_23, r8089_26, r8089_27, r8089_28, r8089_31, r8089_34, r8089_35, q_up_k, e27, h, e30, e31, e32, b_eq0, b_eq1, b_0eq, ite_not, not_true_eq_false, not_false_eq_true, ↓reduceIte, va_rf_some, va_rf_none, cat_int, cat_ref, cat_null, cat_jk, q_cs_nil, q_cs_int, q_cs_ref, q_cs_long, q_tl_some, q_tl_none, nz_0, nz_1, nzn_0, nzn_1, nz_b, true_and, and_true, Nat.reduceLeDiff, Nat.reduceAdd, l_0, l_1, l_2, l_3, l_4, l_5, l_6, l_7, l_8, l_9, l_10, l_11, l_12, l_13, l_14, l_15, l_16, l_17, l_18, l_19, l_20, l_24, l_32, l_40, l_41, l_42, l_43, l_45, l_48, l_57, l_59, l_60, l_61, l_63, l_64, l_80, l_96, l_97, l_99, l_100, l_122, l_160, l_200, l_320, l_640, l_999, l_1000, l_1200, l_4000, l_99999, l_100000, l_100001, l_100002, l_100006, l_100010, l_252645135, l_858993459, l_1431655765, n_cl, n_lt, n_le, n_eq, n_in, n_add, n_mul, n_sub, n_div, n_mod, n_addneg, n_negl, n_nege, Nat.add_sub_cancel, d_ltT, d_ltF, d_leT, d_leF, d_eqT, d_eqF, ↓reduceIte, Nat.reduceLeDiff, Nat.reduceAdd, Nat.reduceMul, Nat.reduceSub, Nat.reduceLT, Nat.zero_add, Nat.add_zero, not_false_eq_true, pK_135, pK_136, pK_137, pK_138, pK_139, pK_140, pK_141, pK_142, pK_143, pK_144, pK_145, pK_146, pK_147, pK_148, pK_149, pK_150, pK_151, pK_152, pK_153, pK_154, pK_155, pK_156, pK_157, pK_158, pK_159, pK_160, pK_161, pK_162, pK_163, pK_164, pK_165, pK_166, pK_167, pK_168, pK_169, pK_170, pK_171, pK_172, pK_173, pK_174, pK_175, pK_176, pK_177, pK_178, pR_135_0, pR_135_2, pR_135_3, pR_135_4, pR_135_5, pR_135_6, pR_135_7, pR_135_11, pR_135_12, pR_135_13, pR_135_14, pR_135_15, pR_135_16, pR_135_17, pR_135_19, pR_135_20, pR_135_21, pR_135_23, pR_135_24, pR_135_33, pR_135_34, pR_135_35, pR_135_36, pR_135_37, pR_135_38, pR_135_39, pR_135_40, pR_135_41, pR_135_46, pR_135_47, pR_135_51, pR_135_52, pR_135_53, pR_135_54, pR_135_55, pR_135_56, pR_135_57, pR_135_58, pR_135_59, pR_135_61, pR_135_62, pR_135_63, pR_135_64]
    generalize hJ : q_up (q_up (q_up I 135 8 _) 135 9 _) 135 26 _ = J
    have j1 : ∀ a, a ≠ 135 → J a = I a := fun a ha => by rw [← hJ]; simp (disch := omega) only [q_up_fa]
    have j2 : ∀ k, k < 42 → J 135 k = p_bck M 135 k := fun k hk => by
      rw [← hJ]
      by_cases h : k = 8 ∨ k = 9 ∨ k = 26
      · rcases h with rfl | rfl | rfl <;> simp (disch := omega) only [q_up_k, q_up_same] <;> rfl
      · rw [bck_5 (by omega) (by omega) (by omega), ← hM.2 k hk]
        simp (disch := omega) only [q_up_k]
    refine m_bck1 (J := J) hW ((j1 155 (by decide)).trans (hM.1 155 (by decide) (by decide))) (fun I1 g1 g2 => ?_) 24 0 J (by omega) (fun _ _ => rfl) fun i hi j => by rw [if_neg (by omega)]
    simp (disch := omega) only [r8089_100, r8089_101, va_rf_some, va_rf_none, cat_int, cat_ref, cat_null, cat_jk, q_cs_nil, q_cs_int, q_cs_ref, q_cs_long, q_tl_some, q_tl_none, nz_0, nz_1, nzn_0, nzn_1, nz_b, true_and, and_true, Nat.reduceLeDiff, Nat.reduceAdd, l_0, l_1, l_2, l_3, l_4, l_5, l_6, l_7, l_8, l_9, l_10, l_11, l_12, l_13, l_14, l_15, l_16, l_17, l_18, l_19, l_20, l_24, l_32, l_40, l_41, l_42, l_43, l_45, l_48, l_57, l_59, l_60, l_61, l_63, l_64, l_80, l_96, l_97, l_99, l_100, l_122, l_160, l_200, l_320, l_640, l_999, l_1000, l_1200, l_4000, l_99999, l_100000, l_100001, l_100002, l_100006, l_100010, l_252645135, l_858993459, l_1431655765, n_cl, n_lt, n_le, n_eq, n_in, n_add, n_mul, n_sub, n_div, n_mod, n_addneg, n_negl, n_nege, Nat.add_sub_cancel, d_ltT, d_ltF, d_leT, d_leF, d_eqT, d_eqF, ↓reduceIte, Nat.reduceLeDiff, Nat.reduceAdd, Nat.reduceMul, Nat.reduceSub, Nat.reduceLT, Nat.zero_add, Nat.add_zero, not_false_eq_true, pK_135, pK_136, pK_137, pK_138, pK_139, pK_140, pK_141, pK_142, pK_143, pK_144, pK_145, pK_146, pK_147, pK_148, pK_149, pK_150, pK_151, pK_152, pK_153, pK_154, pK_155, pK_156, pK_157, pK_158, pK_159, pK_160, pK_161, pK_162, pK_163, pK_164, pK_165, pK_166, pK_167, pK_168, pK_169, pK_170, pK_171, pK_172, pK_173, pK_174, pK_175, pK_176, pK_177, pK_178, pR_135_0, pR_135_2, pR_135_3, pR_135_4, pR_135_5, pR_135_6, pR_135_7, pR_135_11, pR_135_12, pR_135_13, pR_135_14, pR_135_15, pR_135_16, pR_135_17, pR_135_19, pR_135_20, pR_135_21, pR_135_23, pR_135_24, pR_135_33, pR_135_34, pR_135_35, pR_135_36, pR_135_37, pR_135_38, pR_135_39, pR_135_40, pR_135_41, pR_135_46, pR_135_47, pR_135_51, pR_135_52, pR_135_53, pR_135_54, pR_135_55, pR_135_56, pR_135_57, pR_135_58, pR_135_59, pR_135_61, pR_135_62, pR_135_63, pR_135_64]
    obtain ⟨i4, h4⟩ := p_ipl_eq hW
    refine m_bck2 (J := I1) h4 ?_ (fun I2 g3 g4 => ?_) (p_ipl M) 0 I1 (by omega) (fun _ _ => rfl) fun i hi j => by rw [if_neg (by omega)]
    · rw [g1 135 (by decide), j2 29 (by decide), bck_5 (by decide) (by decide) (by decide)]; exact i4
    have f1 : I2 135 1 = M 135 1 := by rw [g3 135 (by decide), g1 135 (by decide), j2 1 (by decide), bck_5 (by decide) (by decide) (by decide)]
    simp (disch := omega) only [r8089_140, r8089_141, r8089_144, f1, va_rf_some, va_rf_none, cat_int, cat_ref, cat_null, cat_jk, q_cs_nil, q_cs_int, q_cs_ref, q_cs_long, q_tl_some, q_tl_none, nz_0, nz_1, nzn_0, nzn_1, nz_b, true_and, and_true, Nat.reduceLeDiff, Nat.reduceAdd, l_0, l_1, l_2, l_3, l_4, l_5, l_6, l_7, l_8, l_9, l_10, l_11, l_12, l_13, l_14, l_15, l_16, l_17, l_18, l_19, l_20, l_24, l_32, l_40, l_41, l_42, l_43, l_45, l_48, l_57, l_59, l_60, l_61, l_63, l_64, l_80, l_96, l_97, l_99, l_100, l_122, l_160, l_200, l_320, l_640, l_999, l_1000, l_1200, l_4000, l_99999, l_100000, l_100001, l_100002, l_100006, l_100010, l_252645135, l_858993459, l_1431655765, n_cl, n_lt, n_le, n_eq, n_in, n_add, n_mul, n_sub, n_div, n_mod, n_addneg, n_negl, n_nege, Nat.add_sub_cancel, d_ltT, d_ltF, d_leT, d_leF, d_eqT, d_eqF, ↓reduceIte, Nat.reduceLeDiff, Nat.reduceAdd, Nat.reduceMul, Nat.reduceSub, Nat.reduceLT, Nat.zero_add, Nat.add_zero, not_false_eq_true, pK_135, pK_136, pK_137, pK_138, pK_139, pK_140, pK_141, pK_142, pK_143, pK_144, pK_145, pK_146, pK_147, pK_148, pK_149, pK_150, pK_151, pK_152, pK_153, pK_154, pK_155, pK_156, pK_157, pK_158, pK_159, pK_160, pK_161, pK_162, pK_163, pK_164, pK_165, pK_166, pK_167, pK_168, pK_169, pK_170, pK_171, pK_172, pK_173, pK_174, pK_175, pK_176, pK_177, pK_178, pR_135_0, pR_135_2, pR_135_3, pR_135_4, pR_135_5, pR_135_6, pR_135_7, pR_135_11, pR_135_12, pR_135_13, pR_135_14, pR_135_15, pR_135_16, pR_135_17, pR_135_19, pR_135_20, pR_135_21, pR_135_23, pR_135_24, pR_135_33, pR_135_34, pR_135_35, pR_135_36, pR_135_37, pR_135_38, pR_135_39, pR_135_40, pR_135_41, pR_135_46, pR_135_47, pR_135_51, pR_135_52, pR_135_53, pR_135_54, pR_135_55, pR_135_56, pR_135_57, pR_135_58, pR_135_59, pR_135_61, pR_135_62, pR_135_63, pR_135_64]
    have ot : ∀ a, ¬(140 ≤ a ∧ a ≤ 142) → ¬(150 ≤ a ∧ a ≤ 151) → a ≠ 135 → I2 a = I a := fun a ha hb hc => by rw [g3 a hb, g1 a ha, j1 a hc]
    have m1 : ∀ a, 136 ≤ a → a ≤ 163 → J a = M a := fun a x1 x2 => (j1 a (by omega)).trans (hM.1 a x1 x2)
    refine hQ I2 (fun a ha => ot a (by omega) (by omega) (by omega)) ⟨fun a a1 a2 => ?_, fun k hk => by rw [g3 135 (by decide), g1 135 (by decide), j2 k hk]⟩
    by_cases h1 : 140 ≤ a ∧ a ≤ 142
    · obtain ⟨i, hi, rfl⟩ : ∃ i, i < 3 ∧ a = 140 + i := ⟨a - 140, by omega, by omega⟩
      funext k
      rw [g3 _ (by omega), g2 i hi, bck_f hi, m1 _ (by omega) (by omega), m1 _ (by omega) (by omega)]
    · by_cases h2 : 150 ≤ a ∧ a ≤ 151
      · obtain ⟨i, hi, rfl⟩ : ∃ i, i < 2 ∧ a = 150 + i := ⟨a - 150, by omega, by omega⟩
        funext k
        rw [g4 i hi, bck_g hi, g1 _ (by omega), g1 _ (by omega), m1 _ (by omega) (by omega), m1 _ (by omega) (by omega)]
      · rw [ot a h1 h2 (by omega), bck_o (by omega) h1 h2]
        exact hM.1 a a1 a2
end
