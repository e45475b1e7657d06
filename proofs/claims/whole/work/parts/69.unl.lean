/-! films -/
/-- the first place from k on, of m, at which the rows R are unlike the film f; or -1 -/
def p_ul (R : Nat → Nat → Int32) (f : Nat → Int32) : Nat → Nat → Int32
  | 0, _ => -1
  | m + 1, k => if p_last R < k ∨ ¬ R k 0 = f (2 * k) ∨ ¬ R k 1 = f (2 * k + 1) then Int32.ofNat k else p_ul R f m (k + 1)
theorem ul_succ {R : Nat → Nat → Int32} {f : Nat → Int32} {m k : Nat} : p_ul R f (m + 1) k = if p_last R < k ∨ ¬ R k 0 = f (2 * k) ∨ ¬ R k 1 = f (2 * k + 1) then Int32.ofNat k else p_ul R f m (k + 1) := rfl
def p_fsz (M : Nat → Nat → Int32) (s : Nat) : Nat := (M 162 s).toNatClampNeg
def p_film (M : Nat → Nat → Int32) (s : Nat) : Nat → Int32 := fun k => M 163 (80 * s + k)
def p_un (M : Nat → Nat → Int32) (s : Nat) (R : Nat → Nat → Int32) : Int32 := p_ul R (p_film M s) (p_fsz M s / 2) 0
theorem p_fsz_eq {M : Nat → Nat → Int32} {s : Nat} (h : p_wf M) (hs : s < 4) : M 162 s = Int32.ofNat (p_fsz M s) ∧ p_fsz M s ≤ 80 := by
  obtain ⟨sz, h80, e⟩ := (h.2.2.2.2.2.2.2.2.1 s hs).2
  unfold p_fsz
  rw [e, n_cl (by omega)]
  exact ⟨rfl, h80⟩
section
variable {d c L n : Nat} {Q : Option Value → q_H → Prop} {I M : Nat → Nat → Int32} {r : Nat → Nat → Option Nat} {dk : Nat → Nat × Nat}
/-- the class's sheet s is the model's -/
def p_she (I M : Nat → Nat → Int32) (s : Nat) : Prop := I (124 + 2 * s) 1 = M 161 s ∧ I (124 + 2 * s) 2 = M 162 s ∧ ∀ k, k < 80 → I (125 + 2 * s) k = M 163 (80 * s + k)
theorem k_she {s : Nat} (hs : s < 4) : p_K L dk (124 + 2 * s) = (4, 0) ∧ p_K L dk (125 + 2 * s) = (100, 80) ∧ p_R r (124 + 2 * s) 0 = some (125 + 2 * s) ∧ p_R r 36 s = some (124 + 2 * s) := by
  have : s = 0 ∨ s = 1 ∨ s = 2 ∨ s = 3 := by omega
  rcases this with rfl | rfl | rfl | rfl <;> exact ⟨rfl, rfl, rfl, rfl⟩
theorem s_unl_loop {k t st b u v s : Nat} {w p : Int32} {M' : Nat → Nat → Int32} {I0 : Nat → Nat → Int32} (hW : p_wf M) (hs : s < 4) (hsh : p_she I0 M s) (hc : p_con I0 M') (ha : p_fa 45 L r dk I0 M' k w p false t st b u v) (hy : p_fy M' k w p)
    (hQ : ∀ I', (∀ a, ¬(45 ≤ a ∧ a ≤ 56) → I' a = I0 a) → (∀ j, j ≠ 1 → I' 45 j = I0 45 j) → Q (some (.int (p_un M s (p_row M' k w p false)))) (p_h L I' r dk n)) :
    ∀ (m j : Nat) (I : Nat → Nat → Int32), j + m = p_fsz M s / 2 → p_un M s (p_row M' k w p false) = p_ul (p_row M' k w p false) (p_film M s) m j →
      (j = 0 → p_cfl 45 I0 (p_row M' k w p false) 0 I ∧ ∀ i, i < 3 → I 56 i = p_share M' (p_si M' k) i) →
      (∀ j', j = j' + 1 → p_cfl 45 I0 (p_row M' k w p false) j' I ∧ (∀ i, i < 3 → I 56 i = p_share M' (p_si M' k) i) ∧ p_last (p_row M' k w p false) = p_ls (p_row M' k w p false) (40 - j') j') →
      q_wp (d + 5) c 22 6 [.ref 45, .ref (124 + 2 * s), .int (Int32.ofNat j)] [] (p_h L I r dk n) Q
  | 0, j, I, hj, hl, g0, g1 => by
    obtain ⟨e, h80⟩ := p_fsz_eq hW hs
    obtain ⟨k1, k2, k3, -⟩ := k_she (L := L) (r := r) (dk := dk) hs
    have fr : (∀ a, ¬(45 ≤ a ∧ a ≤ 56) → I a = I0 a) ∧ (∀ j, j ≠ 1 → I 45 j = I0 45 j) := by
      cases j with
      | zero => exact ⟨fun a h => (g0 rfl).1.1 a (by omega), (g0 rfl).1.2.1⟩
      | succ j' => exact ⟨fun a h => (g1 j' rfl).1.1 a (by omega), (g1 j' rfl).1.2.1⟩
    have e2 : I (124 + 2 * s) 2 = Int32.ofNat (p_fsz M s) := by rw [fr.1 _ (by omega)]; exact hsh.2.1.trans e
    have := hQ I fr.1 fr.2
    rw [hl] at this
    rw [r22_6]
    simp (disch := omega) only [r22_7, r22_7n, r22_8, r22_11, r22_12, r22_13, r22_81, r22_82, va_rf_some, va_rf_none, cat_int, cat_ref, cat_null, cat_jk, q_cs_nil, q_cs_int, q_cs_ref, q_cs_long, q_tl_some, q_tl_none, nz_0, nz_1, nzn_0, nzn_1, nz_b, true_and, and_true, Nat.reduceLeDiff, Nat.reduceAdd, l_0, l_1, l_2, l_3, l_4, l_5, l_6, l_7, l_8, l_9, l_10, l_11, l_12, l_13, l_14, l_15, l_16, l_17, l_18, l_19, l_20, l_24, l_32, l_40, l_41, l_42, l_43, l_45, l_48, l_57, l_59, l_60, l_61, l_63, l_64, l_80, l_96, l_97, l_99, l_100, l_122, l_160, l_200, l_320, l_640, l_999, l_1000, l_1200, l_4000, l_99999, l_100000, l_100001, l_100002, l_100006, l_100010, l_252645135, l_858993459, l_1431655765, n_cl, n_lt, n_le, n_eq, n_in, n_add, n_mul, n_sub, n_div, n_mod, n_addneg, n_negl, n_nege, Nat.add_sub_cancel, d_ltT, d_ltF, d_leT, d_leF, d_eqT, d_eqF, ↓reduceIte, Nat.reduceLeDiff, Nat.reduceAdd, Nat.reduceMul, Nat.reduceSub, Nat.reduceLT, Nat.zero_add, Nat.add_zero, not_false_eq_true, k1, e2]
    exact this
  | m + 1, j, I, hj, hl, g0, g1 => by
    obtain ⟨e, h80⟩ := p_fsz_eq hW hs
    obtain ⟨k1, k2, k3, -⟩ := k_she (L := L) (r := r) (dk := dk) hs
    obtain ⟨y1, y2, y3, y4, y5⟩ := hy
    have fr : (∀ a, ¬(45 ≤ a ∧ a ≤ 56) → I a = I0 a) ∧ (∀ j, j ≠ 1 → I 45 j = I0 45 j) := by
      cases j with
      | zero => exact ⟨fun a h => (g0 rfl).1.1 a (by omega), (g0 rfl).1.2.1⟩
      | succ j' => exact ⟨fun a h => (g1 j' rfl).1.1 a (by omega), (g1 j' rfl).1.2.1⟩
    have e2 : I (124 + 2 * s) 2 = Int32.ofNat (p_fsz M s) := by rw [fr.1 _ (by omega)]; exact hsh.2.1.trans e
    rw [ul_succ] at hl
    -- the comparison, behind the step
    have cmp : ∀ I', p_cfl 45 I0 (p_row M' k w p false) j I' → (∀ i, i < 3 → I' 56 i = p_share M' (p_si M' k) i) → p_last (p_row M' k w p false) = p_ls (p_row M' k w p false) (40 - j) j →
        q_wp (d + 5) c 22 33 [.ref 45, .ref (124 + 2 * s), .int (Int32.ofNat j)] [] (p_h L I' r dk n) Q := fun I' q1 q2 q3 => by
      have x0 : I' 47 j = p_row M' k w p false j 0 := q1.2.2.2 j (Nat.le_refl _) 0 (by omega)
      have x1 : I' 48 j = p_row M' k w p false j 1 := q1.2.2.2 j (Nat.le_refl _) 1 (by omega)
      have f0 : I' (125 + 2 * s) (2 * j) = p_film M s (2 * j) := by rw [q1.1 _ (by omega)]; exact hsh.2.2 _ (by omega)
      have f1 : I' (125 + 2 * s) (2 * j + 1) = p_film M s (2 * j + 1) := by rw [q1.1 _ (by omega)]; exact hsh.2.2 _ (by omega)
      have hlast : ¬ p_last (p_row M' k w p false) < j := by
        have := (p_ls_spec (p_row M' k w p false) (40 - j) j).1
        rw [← q3] at this
        omega
      have fr' : (∀ a, ¬(45 ≤ a ∧ a ≤ 56) → I' a = I0 a) := fun a h => q1.1 a (by omega)
      simp (disch := omega) only [r22_33, r22_34, r22_37, r22_38, r22_39, r22_40, r22_41, r22_41n, r22_42, r22_45, r22_46, r22_47, r22_48, r22_49, r22_52, r22_53, r22_56, r22_57, r22_58, r22_59, r22_60, r22_60n, r22_61, r22_64, r22_65, r22_66, r22_67, r22_68, r22_69, r22_70, r22_73, r22_74, r22_75, r22_78, va_rf_some, va_rf_none, cat_int, cat_ref, cat_null, cat_jk, q_cs_nil, q_cs_int, q_cs_ref, q_cs_long, q_tl_some, q_tl_none, nz_0, nz_1, nzn_0, nzn_1, nz_b, true_and, and_true, Nat.reduceLeDiff, Nat.reduceAdd, l_0, l_1, l_2, l_3, l_4, l_5, l_6, l_7, l_8, l_9, l_10, l_11, l_12, l_13, l_14, l_15, l_16, l_17, l_18, l_19, l_20, l_24, l_32, l_40, l_41, l_42, l_43, l_45, l_48, l_57, l_59, l_60, l_61, l_63, l_64, l_80, l_96, l_97, l_99, l_100, l_122, l_160, l_200, l_320, l_640, l_999, l_1000, l_1200, l_4000, l_99999, l_100000, l_100001, l_100002, l_100006, l_100010, l_252645135, l_858993459, l_1431655765, n_cl, n_lt, n_le, n_eq, n_in, n_add, n_mul, n_sub, n_div, n_mod, n_addneg, n_negl, n_nege, Nat.add_sub_cancel, d_ltT, d_ltF, d_leT, d_leF, d_eqT, d_eqF, ↓reduceIte, Nat.reduceLeDiff, Nat.reduceAdd, Nat.reduceMul, Nat.reduceSub, Nat.reduceLT, Nat.zero_add, Nat.add_zero, not_false_eq_true, pK_45, pK_46, pK_47, pK_48, pK_49, pK_50, pK_51, pK_52, pK_53, pK_54, pK_55, pK_56, pR_45_0, pR_45_10, pR_45_11, pR_45_12, pR_46_0, pR_46_1, pR_46_2, pR_46_3, pR_46_4, pR_46_5, pR_46_6, pR_45_2, pR_45_3, pR_45_4, k1, k2, k3, x0, x1, f0, f1]
      by_cases c0 : p_row M' k w p false j 0 = p_film M s (2 * j)
      · by_cases c1 : p_row M' k w p false j 1 = p_film M s (2 * j + 1)
        · rw [if_pos c0, if_pos c1]
          rw [if_neg (show ¬ (p_last (p_row M' k w p false) < j ∨ ¬ p_row M' k w p false j 0 = p_film M s (2 * j) ∨ ¬ p_row M' k w p false j 1 = p_film M s (2 * j + 1)) from by rintro (z | z | z); exact hlast z; exact z c0; exact z c1)] at hl
          exact s_unl_loop hW hs hsh hc ha ⟨y1, y2, y3, y4, y5⟩ hQ m (j + 1) I' (by omega) hl (fun z => by omega) fun j' hj' => by
            obtain rfl : j' = j := by omega
            exact ⟨q1, q2, q3⟩
        · rw [if_pos c0, if_neg c1]
          rw [if_pos (show (p_last (p_row M' k w p false) < j ∨ ¬ p_row M' k w p false j 0 = p_film M s (2 * j) ∨ ¬ p_row M' k w p false j 1 = p_film M s (2 * j + 1)) from .inr (.inr c1))] at hl
          have := hQ I' fr' q1.2.1
          rw [hl] at this
          exact this
      · rw [if_neg c0]
        rw [if_pos (show (p_last (p_row M' k w p false) < j ∨ ¬ p_row M' k w p false j 0 = p_film M s (2 * j) ∨ ¬ p_row M' k w p false j 1 = p_film M s (2 * j + 1)) from .inr (.inl c0))] at hl
        have := hQ I' fr' q1.2.1
        rw [hl] at this
        exact this
    rw [r22_6]
    cases j with
    | zero =>
      obtain ⟨q1, q2⟩ := g0 rfl
      simp (disch := omega) only [r22_7, r22_7n, r22_8, r22_11, r22_12, r22_13, r22_16, r22_17, va_rf_some, va_rf_none, cat_int, cat_ref, cat_null, cat_jk, q_cs_nil, q_cs_int, q_cs_ref, q_cs_long, q_tl_some, q_tl_none, nz_0, nz_1, nzn_0, nzn_1, nz_b, true_and, and_true, Nat.reduceLeDiff, Nat.reduceAdd, l_0, l_1, l_2, l_3, l_4, l_5, l_6, l_7, l_8, l_9, l_10, l_11, l_12, l_13, l_14, l_15, l_16, l_17, l_18, l_19, l_20, l_24, l_32, l_40, l_41, l_42, l_43, l_45, l_48, l_57, l_59, l_60, l_61, l_63, l_64, l_80, l_96, l_97, l_99, l_100, l_122, l_160, l_200, l_320, l_640, l_999, l_1000, l_1200, l_4000, l_99999, l_100000, l_100001, l_100002, l_100006, l_100010, l_252645135, l_858993459, l_1431655765, n_cl, n_lt, n_le, n_eq, n_in, n_add, n_mul, n_sub, n_div, n_mod, n_addneg, n_negl, n_nege, Nat.add_sub_cancel, d_ltT, d_ltF, d_leT, d_leF, d_eqT, d_eqF, ↓reduceIte, Nat.reduceLeDiff, Nat.reduceAdd, Nat.reduceMul, Nat.reduceSub, Nat.reduceLT, Nat.zero_add, Nat.add_zero, not_false_eq_true, k1, e2]
      exact cmp I q1 q2 rfl
    | succ j' =>
      obtain ⟨q1, q2, q3⟩ := g1 j' rfl
      have hz : I 49 j' = p_row M' k w p false j' 2 := q1.2.2.2 j' (Nat.le_refl _) 2 (by omega)
      have hg := s_goesOn (d := d + 2) (c := 0) (L := L) (n := n) (r := r) (dk := dk) (f := 45) (.inl rfl) q1.2.2.1 (show j' ≤ 40 by omega) hz (Q := fun rr h' => q_wp (d + 5) c 22 24 [.ref 45, .ref (124 + 2 * s), .int (Int32.ofNat (j' + 1))] (rr.toList ++ []) h' Q)
      simp (disch := omega) only [r22_7, r22_7n, r22_8, r22_11, r22_12, r22_13, r22_16, r22_17, r22_20, r22_21, va_rf_some, va_rf_none, cat_int, cat_ref, cat_null, cat_jk, q_cs_nil, q_cs_int, q_cs_ref, q_cs_long, q_tl_some, q_tl_none, nz_0, nz_1, nzn_0, nzn_1, nz_b, true_and, and_true, Nat.reduceLeDiff, Nat.reduceAdd, l_0, l_1, l_2, l_3, l_4, l_5, l_6, l_7, l_8, l_9, l_10, l_11, l_12, l_13, l_14, l_15, l_16, l_17, l_18, l_19, l_20, l_24, l_32, l_40, l_41, l_42, l_43, l_45, l_48, l_57, l_59, l_60, l_61, l_63, l_64, l_80, l_96, l_97, l_99, l_100, l_122, l_160, l_200, l_320, l_640, l_999, l_1000, l_1200, l_4000, l_99999, l_100000, l_100001, l_100002, l_100006, l_100010, l_252645135, l_858993459, l_1431655765, n_cl, n_lt, n_le, n_eq, n_in, n_add, n_mul, n_sub, n_div, n_mod, n_addneg, n_negl, n_nege, Nat.add_sub_cancel, d_ltT, d_ltF, d_leT, d_leF, d_eqT, d_eqF, ↓reduceIte, Nat.reduceLeDiff, Nat.reduceAdd, Nat.reduceMul, Nat.reduceSub, Nat.reduceLT, Nat.zero_add, Nat.add_zero, not_false_eq_true, pK_45, pK_46, pK_47, pK_48, pK_49, pK_50, pK_51, pK_52, pK_53, pK_54, pK_55, pK_56, pR_45_0, pR_45_10, pR_45_11, pR_45_12, pR_46_0, pR_46_1, pR_46_2, pR_46_3, pR_46_4, pR_46_5, pR_46_6, pR_45_2, pR_45_3, pR_45_4, k1, e2]
      refine Eq.mpr hg ?_
      have hls : p_ls (p_row M' k w p false) (40 - j') j' = if p_row M' k w p false j' 2 = 0 then j' else p_ls (p_row M' k w p false) (40 - (j' + 1)) (j' + 1) := by
        rw [show 40 - j' = (40 - (j' + 1)) + 1 by omega]
        rfl
      rw [hls] at q3
      by_cases h0 : p_row M' k w p false j' 2 = 0
      · rw [if_pos h0] at q3
        rw [if_neg (show ¬ (j' < 40 ∧ ¬ p_row M' k w p false j' 2 = 0) from fun z => z.2 h0)]
        rw [if_pos (show (p_last (p_row M' k w p false) < j' + 1 ∨ _) from .inl (by omega))] at hl
        simp (disch := omega) only [q_tl_some, r22_24, r22_27, r22_28, va_rf_some, va_rf_none, cat_int, cat_ref, cat_null, cat_jk, q_cs_nil, q_cs_int, q_cs_ref, q_cs_long, q_tl_some, q_tl_none, nz_0, nz_1, nzn_0, nzn_1, nz_b, true_and, and_true, Nat.reduceLeDiff, Nat.reduceAdd, l_0, l_1, l_2, l_3, l_4, l_5, l_6, l_7, l_8, l_9, l_10, l_11, l_12, l_13, l_14, l_15, l_16, l_17, l_18, l_19, l_20, l_24, l_32, l_40, l_41, l_42, l_43, l_45, l_48, l_57, l_59, l_60, l_61, l_63, l_64, l_80, l_96, l_97, l_99, l_100, l_122, l_160, l_200, l_320, l_640, l_999, l_1000, l_1200, l_4000, l_99999, l_100000, l_100001, l_100002, l_100006, l_100010, l_252645135, l_858993459, l_1431655765, n_cl, n_lt, n_le, n_eq, n_in, n_add, n_mul, n_sub, n_div, n_mod, n_addneg, n_negl, n_nege, Nat.add_sub_cancel, d_ltT, d_ltF, d_leT, d_leF, d_eqT, d_eqF, ↓reduceIte, Nat.reduceLeDiff, Nat.reduceAdd, Nat.reduceMul, Nat.reduceSub, Nat.reduceLT, Nat.zero_add, Nat.add_zero, not_false_eq_true]
        have := hQ I fr.1 fr.2
        rw [hl] at this
        exact this
      · rw [if_neg h0] at q3
        rw [if_pos (show (j' < 40 ∧ ¬ p_row M' k w p false j' 2 = 0) from ⟨by omega, h0⟩)]
        simp (disch := omega) only [q_tl_some, r22_24, r22_27, r22_28, r22_29, r22_30, va_rf_some, va_rf_none, cat_int, cat_ref, cat_null, cat_jk, q_cs_nil, q_cs_int, q_cs_ref, q_cs_long, q_tl_some, q_tl_none, nz_0, nz_1, nzn_0, nzn_1, nz_b, true_and, and_true, Nat.reduceLeDiff, Nat.reduceAdd, l_0, l_1, l_2, l_3, l_4, l_5, l_6, l_7, l_8, l_9, l_10, l_11, l_12, l_13, l_14, l_15, l_16, l_17, l_18, l_19, l_20, l_24, l_32, l_40, l_41, l_42, l_43, l_45, l_48, l_57, l_59, l_60, l_61, l_63, l_64, l_80, l_96, l_97, l_99, l_100, l_122, l_160, l_200, l_320, l_640, l_999, l_1000, l_1200, l_4000, l_99999, l_100000, l_100001, l_100002, l_100006, l_100010, l_252645135, l_858993459, l_1431655765, n_cl, n_lt, n_le, n_eq, n_in, n_add, n_mul, n_sub, n_div, n_mod, n_addneg, n_negl, n_nege, Nat.add_sub_cancel, d_ltT, d_ltF, d_leT, d_leF, d_eqT, d_eqF, ↓reduceIte, Nat.reduceLeDiff, Nat.reduceAdd, Nat.reduceMul, Nat.reduceSub, Nat.reduceLT, Nat.zero_add, Nat.add_zero, not_false_eq_true, pK_45, pK_46, pK_47, pK_48, pK_49, pK_50, pK_51, pK_52, pK_53, pK_54, pK_55, pK_56, pR_45_0, pR_45_10, pR_45_11, pR_45_12, pR_46_0, pR_46_1, pR_46_2, pR_46_3, pR_46_4, pR_46_5, pR_46_6, pR_45_2, pR_45_3, pR_45_4]
        refine s_step (.inl rfl) hc ha y1 y2 y4 y5 (show j' < 40 by omega) q1 q2 fun I' q5 q6 => ?_
        simp only [q_tl_none]
        exact cmp I' q5 q6 q3
theorem s_unlike {k t st b u v s : Nat} {w p : Int32} {M' : Nat → Nat → Int32} (hW : p_wf M) (hs : s < 4) (hsh : p_she I M s) (hc : p_con I M') (ha : p_fa 45 L r dk I M' k w p false t st b u v) (hy : p_fy M' k w p)
    (hQ : ∀ I', (∀ a, ¬(45 ≤ a ∧ a ≤ 56) → I' a = I a) → (∀ j, j ≠ 1 → I' 45 j = I 45 j) → Q (some (.int (p_un M s (p_row M' k w p false)))) (p_h L I' r dk n)) :
    q_wp (d + 5) c 22 0 [.ref 45, .ref (124 + 2 * s), q_jk] [] (p_h L I r dk n) Q := by
  obtain ⟨y1, y2, y3, y4, y5⟩ := hy
  simp (disch := omega) only [r22_0, r22_1, va_rf_some, va_rf_none, cat_int, cat_ref, cat_null, cat_jk, q_cs_nil, q_cs_int, q_cs_ref, q_cs_long, q_tl_some, q_tl_none, nz_0, nz_1, nzn_0, nzn_1, nz_b, true_and, and_true, Nat.reduceLeDiff, Nat.reduceAdd, l_0, l_1, l_2, l_3, l_4, l_5, l_6, l_7, l_8, l_9, l_10, l_11, l_12, l_13, l_14, l_15, l_16, l_17, l_18, l_19, l_20, l_24, l_32, l_40, l_41, l_42, l_43, l_45, l_48, l_57, l_59, l_60, l_61, l_63, l_64, l_80, l_96, l_97, l_99, l_100, l_122, l_160, l_200, l_320, l_640, l_999, l_1000, l_1200, l_4000, l_99999, l_100000, l_100001, l_100002, l_100006, l_100010, l_252645135, l_858993459, l_1431655765, n_cl, n_lt, n_le, n_eq, n_in, n_add, n_mul, n_sub, n_div, n_mod, n_addneg, n_negl, n_nege, Nat.add_sub_cancel, d_ltT, d_ltF, d_leT, d_leF, d_eqT, d_eqF, ↓reduceIte, Nat.reduceLeDiff, Nat.reduceAdd, Nat.reduceMul, Nat.reduceSub, Nat.reduceLT, Nat.zero_add, Nat.add_zero, not_false_eq_true, pK_45, pK_46, pK_47, pK_48, pK_49, pK_50, pK_51, pK_52, pK_53, pK_54, pK_55, pK_56, pR_45_0, pR_45_10, pR_45_11, pR_45_12, pR_46_0, pR_46_1, pR_46_2, pR_46_3, pR_46_4, pR_46_5, pR_46_6, pR_45_2, pR_45_3, pR_45_4]
  refine s_begin (.inl rfl) hc ha y1 y3 fun I1 h1 h2 => ?_
  simp (disch := omega) only [q_tl_none, r22_4, r22_5, va_rf_some, va_rf_none, cat_int, cat_ref, cat_null, cat_jk, q_cs_nil, q_cs_int, q_cs_ref, q_cs_long, q_tl_some, q_tl_none, nz_0, nz_1, nzn_0, nzn_1, nz_b, true_and, and_true, Nat.reduceLeDiff, Nat.reduceAdd, l_0, l_1, l_2, l_3, l_4, l_5, l_6, l_7, l_8, l_9, l_10, l_11, l_12, l_13, l_14, l_15, l_16, l_17, l_18, l_19, l_20, l_24, l_32, l_40, l_41, l_42, l_43, l_45, l_48, l_57, l_59, l_60, l_61, l_63, l_64, l_80, l_96, l_97, l_99, l_100, l_122, l_160, l_200, l_320, l_640, l_999, l_1000, l_1200, l_4000, l_99999, l_100000, l_100001, l_100002, l_100006, l_100010, l_252645135, l_858993459, l_1431655765, n_cl, n_lt, n_le, n_eq, n_in, n_add, n_mul, n_sub, n_div, n_mod, n_addneg, n_negl, n_nege, Nat.add_sub_cancel, d_ltT, d_ltF, d_leT, d_leF, d_eqT, d_eqF, ↓reduceIte, Nat.reduceLeDiff, Nat.reduceAdd, Nat.reduceMul, Nat.reduceSub, Nat.reduceLT, Nat.zero_add, Nat.add_zero, not_false_eq_true]
  exact s_unl_loop hW hs hsh hc ha ⟨y1, y2, y3, y4, y5⟩ hQ (p_fsz M s / 2) 0 I1 (by omega) rfl (fun _ => ⟨h1, h2⟩) fun j' hj' => absurd hj' (by omega)
theorem m_unl_loop {R : Nat → Nat → Int32} {s : Nat} (hW : p_wf M) (hs : s < 4) (h162 : I 162 = M 162) (h163 : I 163 = M 163) (hF : p_md I R) : ∀ (m k : Nat), k + m = p_fsz M s / 2 →
    q_wp (d + 1) c 8071 2 [.ref 135, .int (Int32.ofNat s), .int (Int32.ofNat k)] [] (p_h L I r dk n) Q = Q (some (.int (p_ul R (p_film M s) m k))) (p_h L I r dk n)
  | 0, k, hk => by
    obtain ⟨e, h80⟩ := p_fsz_eq hW hs
    rw [r8071_2]
    simp (disch := omega) only [r8071_3, r8071_4, r8071_7, r8071_8, r8071_9, r8071_10, r8071_11, r8071_76, r8071_77, va_rf_some, va_rf_none, cat_int, cat_ref, cat_null, cat_jk, q_cs_nil, q_cs_int, q_cs_ref, q_cs_long, q_tl_some, q_tl_none, nz_0, nz_1, nzn_0, nzn_1, nz_b, true_and, and_true, Nat.reduceLeDiff, Nat.reduceAdd, l_0, l_1, l_2, l_3, l_4, l_5, l_6, l_7, l_8, l_9, l_10, l_11, l_12, l_13, l_14, l_15, l_16, l_17, l_18, l_19, l_20, l_24, l_32, l_40, l_41, l_42, l_43, l_45, l_48, l_57, l_59, l_60, l_61, l_63, l_64, l_80, l_96, l_97, l_99, l_100, l_122, l_160, l_200, l_320, l_640, l_999, l_1000, l_1200, l_4000, l_99999, l_100000, l_100001, l_100002, l_100006, l_100010, l_252645135, l_858993459, l_1431655765, n_cl, n_lt, n_le, n_eq, n_in, n_add, n_mul, n_sub, n_div, n_mod, n_addneg, n_negl, n_nege, Nat.add_sub_cancel, d_ltT, d_ltF, d_leT, d_leF, d_eqT, d_eqF, ↓reduceIte, Nat.reduceLeDiff, Nat.reduceAdd, Nat.reduceMul, Nat.reduceSub, Nat.reduceLT, Nat.zero_add, Nat.add_zero, not_false_eq_true, pK_135, pK_136, pK_137, pK_138, pK_139, pK_140, pK_141, pK_142, pK_143, pK_144, pK_145, pK_146, pK_147, pK_148, pK_149, pK_150, pK_151, pK_152, pK_153, pK_154, pK_155, pK_156, pK_157, pK_158, pK_159, pK_160, pK_161, pK_162, pK_163, pK_164, pK_165, pK_166, pK_167, pK_168, pK_169, pK_170, pK_171, pK_172, pK_173, pK_174, pK_175, pK_176, pK_177, pK_178, pR_135_0, pR_135_2, pR_135_3, pR_135_4, pR_135_5, pR_135_6, pR_135_7, pR_135_11, pR_135_12, pR_135_13, pR_135_14, pR_135_15, pR_135_16, pR_135_17, pR_135_19, pR_135_20, pR_135_21, pR_135_23, pR_135_24, pR_135_33, pR_135_34, pR_135_35, pR_135_36, pR_135_37, pR_135_38, pR_135_39, pR_135_40, pR_135_41, pR_135_46, pR_135_47, pR_135_51, pR_135_52, pR_135_53, pR_135_54, pR_135_55, pR_135_56, pR_135_57, pR_135_58, pR_135_59, pR_135_61, pR_135_62, pR_135_63, pR_135_64, h162, e]
    rfl
  | m + 1, k, hk => by
    obtain ⟨e, h80⟩ := p_fsz_eq hW hs
    have hl := p_last_le R
    have e1 := hF.1
    have f0 : M 163 (80 * s + 2 * k) = p_film M s (2 * k) := rfl
    have f1 : M 163 (80 * s + 2 * k + 1) = p_film M s (2 * k + 1) := rfl
    rw [r8071_2, ul_succ]
    by_cases hlt : p_last R < k
    · rw [if_pos (.inl hlt)]
      simp (disch := omega) only [r8071_3, r8071_4, r8071_7, r8071_8, r8071_9, r8071_10, r8071_11, r8071_14, r8071_15, r8071_16, r8071_19, r8071_68, r8071_69, va_rf_some, va_rf_none, cat_int, cat_ref, cat_null, cat_jk, q_cs_nil, q_cs_int, q_cs_ref, q_cs_long, q_tl_some, q_tl_none, nz_0, nz_1, nzn_0, nzn_1, nz_b, true_and, and_true, Nat.reduceLeDiff, Nat.reduceAdd, l_0, l_1, l_2, l_3, l_4, l_5, l_6, l_7, l_8, l_9, l_10, l_11, l_12, l_13, l_14, l_15, l_16, l_17, l_18, l_19, l_20, l_24, l_32, l_40, l_41, l_42, l_43, l_45, l_48, l_57, l_59, l_60, l_61, l_63, l_64, l_80, l_96, l_97, l_99, l_100, l_122, l_160, l_200, l_320, l_640, l_999, l_1000, l_1200, l_4000, l_99999, l_100000, l_100001, l_100002, l_100006, l_100010, l_252645135, l_858993459, l_1431655765, n_cl, n_lt, n_le, n_eq, n_in, n_add, n_mul, n_sub, n_div, n_mod, n_addneg, n_negl, n_nege, Nat.add_sub_cancel, d_ltT, d_ltF, d_leT, d_leF, d_eqT, d_eqF, ↓reduceIte, Nat.reduceLeDiff, Nat.reduceAdd, Nat.reduceMul, Nat.reduceSub, Nat.reduceLT, Nat.zero_add, Nat.add_zero, not_false_eq_true, pK_135, pK_136, pK_137, pK_138, pK_139, pK_140, pK_141, pK_142, pK_143, pK_144, pK_145, pK_146, pK_147, pK_148, pK_149, pK_150, pK_151, pK_152, pK_153, pK_154, pK_155, pK_156, pK_157, pK_158, pK_159, pK_160, pK_161, pK_162, pK_163, pK_164, pK_165, pK_166, pK_167, pK_168, pK_169, pK_170, pK_171, pK_172, pK_173, pK_174, pK_175, pK_176, pK_177, pK_178, pR_135_0, pR_135_2, pR_135_3, pR_135_4, pR_135_5, pR_135_6, pR_135_7, pR_135_11, pR_135_12, pR_135_13, pR_135_14, pR_135_15, pR_135_16, pR_135_17, pR_135_19, pR_135_20, pR_135_21, pR_135_23, pR_135_24, pR_135_33, pR_135_34, pR_135_35, pR_135_36, pR_135_37, pR_135_38, pR_135_39, pR_135_40, pR_135_41, pR_135_46, pR_135_47, pR_135_51, pR_135_52, pR_135_53, pR_135_54, pR_135_55, pR_135_56, pR_135_57, pR_135_58, pR_135_59, pR_135_61, pR_135_62, pR_135_63, pR_135_64, h162, e, e1]
    · have x0 : I 168 k = R k 0 := hF.2 k (by omega) 0 (by omega)
      have x1 : I 169 k = R k 1 := hF.2 k (by omega) 1 (by omega)
      simp (disch := omega) only [r8071_3, r8071_4, r8071_7, r8071_8, r8071_9, r8071_10, r8071_11, r8071_14, r8071_15, r8071_16, r8071_19, r8071_22, r8071_23, r8071_26, r8071_28, r8071_29, r8071_30, r8071_31, r8071_32, r8071_33, r8071_34, r8071_35, r8071_36, r8071_39, r8071_40, r8071_41, r8071_44, r8071_45, r8071_48, r8071_50, r8071_51, r8071_52, r8071_53, r8071_54, r8071_55, r8071_56, r8071_57, r8071_58, r8071_59, r8071_60, r8071_63, r8071_64, r8071_65, r8071_68, r8071_69, r8071_70, r8071_73, va_rf_some, va_rf_none, cat_int, cat_ref, cat_null, cat_jk, q_cs_nil, q_cs_int, q_cs_ref, q_cs_long, q_tl_some, q_tl_none, nz_0, nz_1, nzn_0, nzn_1, nz_b, true_and, and_true, Nat.reduceLeDiff, Nat.reduceAdd, l_0, l_1, l_2, l_3, l_4, l_5, l_6, l_7, l_8, l_9, l_10, l_11, l_12, l_13, l_14, l_15, l_16, l_17, l_18, l_19, l_20, l_24, l_32, l_40, l_41, l_42, l_43, l_45, l_48, l_57, l_59, l_60, l_61, l_63, l_64, l_80, l_96, l_97, l_99, l_100, l_122, l_160, l_200, l_320, l_640, l_999, l_1000, l_1200, l_4000, l_99999, l_100000, l_100001, l_100002, l_100006, l_100010, l_252645135, l_858993459, l_1431655765, n_cl, n_lt, n_le, n_eq, n_in, n_add, n_mul, n_sub, n_div, n_mod, n_addneg, n_negl, n_nege, Nat.add_sub_cancel, d_ltT, d_ltF, d_leT, d_leF, d_eqT, d_eqF, ↓reduceIte, Nat.reduceLeDiff, Nat.reduceAdd, Nat.reduceMul, Nat.reduceSub, Nat.reduceLT, Nat.zero_add, Nat.add_zero, not_false_eq_true, pK_135, pK_136, pK_137, pK_138, pK_139, pK_140, pK_141, pK_142, pK_143, pK_144, pK_145, pK_146, pK_147, pK_148, pK_149, pK_150, pK_151, pK_152, pK_153, pK_154, pK_155, pK_156, pK_157, pK_158, pK_159, pK_160, pK_161, pK_162, pK_163, pK_164, pK_165, pK_166, pK_167, pK_168, pK_169, pK_170, pK_171, pK_172, pK_173, pK_174, pK_175, pK_176, pK_177, pK_178, pR_135_0, pR_135_2, pR_135_3, pR_135_4, pR_135_5, pR_135_6, pR_135_7, pR_135_11, pR_135_12, pR_135_13, pR_135_14, pR_135_15, pR_135_16, pR_135_17, pR_135_19, pR_135_20, pR_135_21, pR_135_23, pR_135_24, pR_135_33, pR_135_34, pR_135_35, pR_135_36, pR_135_37, pR_135_38, pR_135_39, pR_135_40, pR_135_41, pR_135_46, pR_135_47, pR_135_51, pR_135_52, pR_135_53, pR_135_54, pR_135_55, pR_135_56, pR_135_57, pR_135_58, pR_135_59, pR_135_61, pR_135_62, pR_135_63, pR_135_64, h162, h163, e, e1, x0, x1, f0, f1]
      by_cases c0 : R k 0 = p_film M s (2 * k)
      · by_cases c1 : R k 1 = p_film M s (2 * k + 1)
        · rw [if_pos c0.symm, if_pos c1.symm, if_neg (by rintro (z | z | z); exact z; exact z c0; exact z c1)]
          exact m_unl_loop hW hs h162 h163 hF m (k + 1) (by omega)
        · rw [if_pos c0.symm, if_neg (fun z => c1 z.symm), if_pos (.inr (.inr c1))]
      · rw [if_neg (fun z => c0 z.symm), if_pos (.inr (.inl c0))]
theorem m_unlike {R : Nat → Nat → Int32} {s : Nat} (hW : p_wf M) (hs : s < 4) (h162 : I 162 = M 162) (h163 : I 163 = M 163) (hF : p_md I R) :
    q_wp (d + 1) c 8071 0 [.ref 135, .int (Int32.ofNat s), q_jk] [] (p_h L I r dk n) Q = Q (some (.int (p_un M s R))) (p_h L I r dk n) := by
  refine Eq.trans ?_ (m_unl_loop (d := d) (c := c) hW hs h162 h163 hF (p_fsz M s / 2) 0 (by omega))
  simp (disch := omega) only [r8071_0, r8071_1, va_rf_some, va_rf_none, cat_int, cat_ref, cat_null, cat_jk, q_cs_nil, q_cs_int, q_cs_ref, q_cs_long, q_tl_some, q_tl_none, nz_0, nz_1, nzn_0, nzn_1, nz_b, true_and, and_true, Nat.reduceLeDiff, Nat.reduceAdd, l_0, l_1, l_2, l_3, l_4, l_5, l_6, l_7, l_8, l_9, l_10, l_11, l_12, l_13, l_14, l_15, l_16, l_17, l_18, l_19, l_20, l_24, l_32, l_40, l_41, l_42, l_43, l_45, l_48, l_57, l_59, l_60, l_61, l_63, l_64, l_80, l_96, l_97, l_99, l_100, l_122, l_160, l_200, l_320, l_640, l_999, l_1000, l_1200, l_4000, l_99999, l_100000, l_100001, l_100002, l_100006, l_100010, l_252645135, l_858993459, l_1431655765, n_cl, n_lt, n_le, n_eq, n_in, n_add, n_mul, n_sub, n_div, n_mod, n_addneg, n_negl, n_nege, Nat.add_sub_cancel, d_ltT, d_ltF, d_leT, d_leF, d_eqT, d_eqF, ↓reduceIte, Nat.reduceLeDiff, Nat.reduceAdd, Nat.reduceMul, Nat.reduceSub, Nat.reduceLT, Nat.zero_add, Nat.add_zero, not_false_eq_true]
end
