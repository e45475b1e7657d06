/-! a hand that wanders; a fraction in lowest terms -/
theorem g_eq {x y : Nat} (hx : x < 9223372036854775808) (hy : y < 9223372036854775808) : (Int64.ofNat x = Int64.ofNat y) = (x = y) := by
  refine propext ⟨fun h => ?_, fun h => by rw [h]⟩
  have h1 := congrArg Int64.toInt h
  rw [Int64.toInt_ofNat_of_lt hx, Int64.toInt_ofNat_of_lt hy] at h1
  omega
theorem lg_0 {x y : Int64} : (lg_cmp x y = 0) = (x = y) := by
  refine propext ⟨fun h => ?_, fun h => ?_⟩
  · have h1 := (lg_cmp_ge x y).1 (by rw [h]; exact Int32.le_refl _)
    have h2 := (lg_cmp_le x y).1 (by rw [h]; exact Int32.le_refl _)
    exact Int64.le_antisymm h2 h1
  · exact Int32.le_antisymm ((lg_cmp_le x y).2 (by rw [h]; exact Int64.le_refl _)) ((lg_cmp_ge x y).2 (by rw [h]; exact Int64.le_refl _))
theorem g_cmp0 {y : Nat} (hy : y < 9223372036854775808) : (lg_cmp (Int64.ofNat y) 0 = Int32.ofNat 0) = (y = 0) := by
  rw [show Int32.ofNat 0 = (0 : Int32) from rfl, lg_0, show (0 : Int64) = Int64.ofNat 0 from rfl, g_eq hy (by omega)]
theorem g_mod {a b : Nat} (ha : a < 9223372036854775808) (hb : b < 9223372036854775808) : Int64.ofNat a % Int64.ofNat b = Int64.ofNat (a % b) := (Int64.ofNat_mod ha hb).symm
theorem g_div {a b : Nat} (ha : a < 9223372036854775808) (hb : b < 9223372036854775808) : Int64.ofNat a / Int64.ofNat b = Int64.ofNat (a / b) := (Int64.ofNat_div ha hb).symm
theorem g_ne0 {y : Nat} (hy : y < 9223372036854775808) (h : 0 < y) : (Int64.ofNat y = 0) = False := by
  rw [show (0 : Int64) = Int64.ofNat 0 from rfl, g_eq hy (by omega)]
  exact eq_false (by omega)
theorem n_i2l {k : Nat} (h : k < 2147483648) : (Int32.ofNat k).toInt64 = Int64.ofNat k := Int32.toInt64_ofNat' (by show (k : Int) ≤ 2147483647; omega)
def p_low (A B : Nat) (part : Int32) : Int64 := Int64.ofNat ((if part = 0 then A else B) / Nat.gcd A B)
section
variable {d c : Nat} {h : q_H} {Q : Option Value → q_H → Prop}
theorem s_low_loop {A B : Nat} {part : Int32} (hA : A < 4611686018427387904) (hB : B < 4611686018427387904) (hB0 : 0 < B) :
    ∀ (m k x y : Nat) (l : Value), k + m = 200 → y ≤ m → x < 4611686018427387904 → Nat.gcd x y = Nat.gcd A B →
      q_wp (d + 1) c 7064 9 [.long (Int64.ofNat A), q_jk, .long (Int64.ofNat B), q_jk, .int part, .long (Int64.ofNat x), q_jk, .long (Int64.ofNat y), q_jk, .int (Int32.ofNat k), l, q_jk] [] h Q = Q (some (.long (p_low A B part))) h := by
  have fin : ∀ (k x : Nat) (l : Value), k ≤ 200 → x < 4611686018427387904 → Nat.gcd x 0 = Nat.gcd A B →
      q_wp (d + 1) c 7064 45 [.long (Int64.ofNat A), q_jk, .long (Int64.ofNat B), q_jk, .int part, .long (Int64.ofNat x), q_jk, .long (Int64.ofNat 0), q_jk, .int (Int32.ofNat k), l, q_jk] [] h Q = Q (some (.long (p_low A B part))) h := fun k x l hk hx hg => by
    rw [Nat.gcd_zero_right] at hg
    have hx0 : 0 < x := by rw [hg]; exact Nat.gcd_pos_of_pos_right _ hB0
    simp (disch := omega) only [r7064_45, r7064_47, r7064_48, r7064_49, r7064_52, r7064_55, r7064_56, r7064_58, r7064_61, r7064_62, r7064_65, r7064_66, r7064_68, r7064_69, g_cmp0, g_ne0, g_div, va_rf_some, va_rf_none, cat_int, cat_ref, cat_null, cat_jk, q_cs_nil, q_cs_int, q_cs_ref, q_cs_long, q_tl_some, q_tl_none, nz_0, nz_1, nzn_0, nzn_1, nz_b, true_and, and_true, Nat.reduceLeDiff, Nat.reduceAdd, l_0, l_1, l_2, l_3, l_4, l_5, l_6, l_7, l_8, l_9, l_10, l_11, l_12, l_13, l_14, l_15, l_16, l_17, l_18, l_19, l_20, l_24, l_32, l_40, l_41, l_42, l_43, l_45, l_48, l_57, l_59, l_60, l_61, l_63, l_64, l_80, l_96, l_97, l_99, l_100, l_122, l_160, l_200, l_320, l_640, l_999, l_1000, l_1200, l_4000, l_99999, l_100000, l_100001, l_100002, l_100006, l_100010, l_252645135, l_858993459, l_1431655765, n_cl, n_lt, n_le, n_eq, n_in, n_add, n_mul, n_sub, n_div, n_mod, n_addneg, n_negl, n_nege, Nat.add_sub_cancel, d_ltT, d_ltF, d_leT, d_leF, d_eqT, d_eqF, ↓reduceIte, Nat.reduceLeDiff, Nat.reduceAdd, Nat.reduceMul, Nat.reduceSub, Nat.reduceLT, Nat.zero_add, Nat.add_zero, not_false_eq_true, p_low, ← hg]
    by_cases hp : part = Int32.ofNat 0
    · rw [if_pos hp, if_pos hp]
    · rw [if_neg hp, if_neg hp]
  intro m
  induction m with
  | zero =>
    intro k x y l hk hy hx hg
    obtain rfl : y = 0 := by omega
    rw [r7064_9]
    simp (disch := omega) only [r7064_11, r7064_14, va_rf_some, va_rf_none, cat_int, cat_ref, cat_null, cat_jk, q_cs_nil, q_cs_int, q_cs_ref, q_cs_long, q_tl_some, q_tl_none, nz_0, nz_1, nzn_0, nzn_1, nz_b, true_and, and_true, Nat.reduceLeDiff, Nat.reduceAdd, l_0, l_1, l_2, l_3, l_4, l_5, l_6, l_7, l_8, l_9, l_10, l_11, l_12, l_13, l_14, l_15, l_16, l_17, l_18, l_19, l_20, l_24, l_32, l_40, l_41, l_42, l_43, l_45, l_48, l_57, l_59, l_60, l_61, l_63, l_64, l_80, l_96, l_97, l_99, l_100, l_122, l_160, l_200, l_320, l_640, l_999, l_1000, l_1200, l_4000, l_99999, l_100000, l_100001, l_100002, l_100006, l_100010, l_252645135, l_858993459, l_1431655765, n_cl, n_lt, n_le, n_eq, n_in, n_add, n_mul, n_sub, n_div, n_mod, n_addneg, n_negl, n_nege, Nat.add_sub_cancel, d_ltT, d_ltF, d_leT, d_leF, d_eqT, d_eqF, ↓reduceIte, Nat.reduceLeDiff, Nat.reduceAdd, Nat.reduceMul, Nat.reduceSub, Nat.reduceLT, Nat.zero_add, Nat.add_zero, not_false_eq_true]
    exact fin k x l (by omega) hx hg
  | succ m ih =>
    intro k x y l hk hy hx hg
    rw [r7064_9]
    by_cases h0 : y = 0
    · rw [h0] at hg ⊢
      simp (disch := omega) only [r7064_11, r7064_14, r7064_17, r7064_19, r7064_20, r7064_21, g_cmp0, va_rf_some, va_rf_none, cat_int, cat_ref, cat_null, cat_jk, q_cs_nil, q_cs_int, q_cs_ref, q_cs_long, q_tl_some, q_tl_none, nz_0, nz_1, nzn_0, nzn_1, nz_b, true_and, and_true, Nat.reduceLeDiff, Nat.reduceAdd, l_0, l_1, l_2, l_3, l_4, l_5, l_6, l_7, l_8, l_9, l_10, l_11, l_12, l_13, l_14, l_15, l_16, l_17, l_18, l_19, l_20, l_24, l_32, l_40, l_41, l_42, l_43, l_45, l_48, l_57, l_59, l_60, l_61, l_63, l_64, l_80, l_96, l_97, l_99, l_100, l_122, l_160, l_200, l_320, l_640, l_999, l_1000, l_1200, l_4000, l_99999, l_100000, l_100001, l_100002, l_100006, l_100010, l_252645135, l_858993459, l_1431655765, n_cl, n_lt, n_le, n_eq, n_in, n_add, n_mul, n_sub, n_div, n_mod, n_addneg, n_negl, n_nege, Nat.add_sub_cancel, d_ltT, d_ltF, d_leT, d_leF, d_eqT, d_eqF, ↓reduceIte, Nat.reduceLeDiff, Nat.reduceAdd, Nat.reduceMul, Nat.reduceSub, Nat.reduceLT, Nat.zero_add, Nat.add_zero, not_false_eq_true]
      exact fin k x l (by omega) hx hg
    · simp (disch := omega) only [r7064_11, r7064_14, r7064_17, r7064_19, r7064_20, r7064_21, r7064_24, r7064_26, r7064_28, r7064_29, r7064_31, r7064_33, r7064_35, r7064_37, r7064_39, r7064_42, g_cmp0, g_ne0, g_mod, va_rf_some, va_rf_none, cat_int, cat_ref, cat_null, cat_jk, q_cs_nil, q_cs_int, q_cs_ref, q_cs_long, q_tl_some, q_tl_none, nz_0, nz_1, nzn_0, nzn_1, nz_b, true_and, and_true, Nat.reduceLeDiff, Nat.reduceAdd, l_0, l_1, l_2, l_3, l_4, l_5, l_6, l_7, l_8, l_9, l_10, l_11, l_12, l_13, l_14, l_15, l_16, l_17, l_18, l_19, l_20, l_24, l_32, l_40, l_41, l_42, l_43, l_45, l_48, l_57, l_59, l_60, l_61, l_63, l_64, l_80, l_96, l_97, l_99, l_100, l_122, l_160, l_200, l_320, l_640, l_999, l_1000, l_1200, l_4000, l_99999, l_100000, l_100001, l_100002, l_100006, l_100010, l_252645135, l_858993459, l_1431655765, n_cl, n_lt, n_le, n_eq, n_in, n_add, n_mul, n_sub, n_div, n_mod, n_addneg, n_negl, n_nege, Nat.add_sub_cancel, d_ltT, d_ltF, d_leT, d_leF, d_eqT, d_eqF, ↓reduceIte, Nat.reduceLeDiff, Nat.reduceAdd, Nat.reduceMul, Nat.reduceSub, Nat.reduceLT, Nat.zero_add, Nat.add_zero, not_false_eq_true]
      have hm := Nat.mod_lt x (show 0 < y by omega)
      exact ih (k + 1) y (x % y) _ (by omega) (by omega) (by omega) (by rw [← hg, Nat.gcd_comm y, ← Nat.gcd_rec, Nat.gcd_comm])
theorem s_low {A B : Nat} {part : Int32} (hA : A < 4611686018427387904) (hB : B ≤ 200) (hB0 : 0 < B) :
    q_wp (d + 1) c 7064 0 [.long (Int64.ofNat A), q_jk, .long (Int64.ofNat B), q_jk, .int part, q_jk, q_jk, q_jk, q_jk, q_jk, q_jk, q_jk] [] h Q = Q (some (.long (p_low A B part))) h := by
  refine Eq.trans ?_ (s_low_loop (d := d) (c := c) hA (by omega) hB0 200 0 A B q_jk (by omega) hB hA rfl)
  simp (disch := omega) only [r7064_0, r7064_1, r7064_3, r7064_4, r7064_6, r7064_7, va_rf_some, va_rf_none, cat_int, cat_ref, cat_null, cat_jk, q_cs_nil, q_cs_int, q_cs_ref, q_cs_long, q_tl_some, q_tl_none, nz_0, nz_1, nzn_0, nzn_1, nz_b, true_and, and_true, Nat.reduceLeDiff, Nat.reduceAdd, l_0, l_1, l_2, l_3, l_4, l_5, l_6, l_7, l_8, l_9, l_10, l_11, l_12, l_13, l_14, l_15, l_16, l_17, l_18, l_19, l_20, l_24, l_32, l_40, l_41, l_42, l_43, l_45, l_48, l_57, l_59, l_60, l_61, l_63, l_64, l_80, l_96, l_97, l_99, l_100, l_122, l_160, l_200, l_320, l_640, l_999, l_1000, l_1200, l_4000, l_99999, l_100000, l_100001, l_100002, l_100006, l_100010, l_252645135, l_858993459, l_1431655765, n_cl, n_lt, n_le, n_eq, n_in, n_add, n_mul, n_sub, n_div, n_mod, n_addneg, n_negl, n_nege, Nat.add_sub_cancel, d_ltT, d_ltF, d_leT, d_leF, d_eqT, d_eqF, ↓reduceIte, Nat.reduceLeDiff, Nat.reduceAdd, Nat.reduceMul, Nat.reduceSub, Nat.reduceLT, Nat.zero_add, Nat.add_zero, not_false_eq_true, cat_jk, cat_int]
theorem m_low_loop {A B : Nat} {part : Int32} (hA : A < 4611686018427387904) (hB : B < 4611686018427387904) (hB0 : 0 < B) :
    ∀ (m x y : Nat) (l : Value), y ≤ m → x < 4611686018427387904 → y < 4611686018427387904 → Nat.gcd x y = Nat.gcd A B →
      q_wp (d + 1) c 8056 16 [.long (Int64.ofNat A), q_jk, .long (Int64.ofNat B), q_jk, .int part, .long (Int64.ofNat x), q_jk, .long (Int64.ofNat y), q_jk, l, q_jk] [] h Q = Q (some (.long (p_low A B part))) h := by
  have fin : ∀ (x : Nat) (l : Value), x < 4611686018427387904 → Nat.gcd x 0 = Nat.gcd A B →
      q_wp (d + 1) c 8056 16 [.long (Int64.ofNat A), q_jk, .long (Int64.ofNat B), q_jk, .int part, .long (Int64.ofNat x), q_jk, .long (Int64.ofNat 0), q_jk, l, q_jk] [] h Q = Q (some (.long (p_low A B part))) h := fun x l hx hg => by
    rw [Nat.gcd_zero_right] at hg
    have hx0 : 0 < x := by rw [hg]; exact Nat.gcd_pos_of_pos_right _ hB0
    rw [r8056_16]
    simp (disch := omega) only [r8056_18, r8056_19, r8056_20, r8056_41, r8056_43, r8056_46, r8056_47, r8056_50, r8056_51, r8056_53, r8056_54, g_cmp0, g_ne0, g_div, va_rf_some, va_rf_none, cat_int, cat_ref, cat_null, cat_jk, q_cs_nil, q_cs_int, q_cs_ref, q_cs_long, q_tl_some, q_tl_none, nz_0, nz_1, nzn_0, nzn_1, nz_b, true_and, and_true, Nat.reduceLeDiff, Nat.reduceAdd, l_0, l_1, l_2, l_3, l_4, l_5, l_6, l_7, l_8, l_9, l_10, l_11, l_12, l_13, l_14, l_15, l_16, l_17, l_18, l_19, l_20, l_24, l_32, l_40, l_41, l_42, l_43, l_45, l_48, l_57, l_59, l_60, l_61, l_63, l_64, l_80, l_96, l_97, l_99, l_100, l_122, l_160, l_200, l_320, l_640, l_999, l_1000, l_1200, l_4000, l_99999, l_100000, l_100001, l_100002, l_100006, l_100010, l_252645135, l_858993459, l_1431655765, n_cl, n_lt, n_le, n_eq, n_in, n_add, n_mul, n_sub, n_div, n_mod, n_addneg, n_negl, n_nege, Nat.add_sub_cancel, d_ltT, d_ltF, d_leT, d_leF, d_eqT, d_eqF, ↓reduceIte, Nat.reduceLeDiff, Nat.reduceAdd, Nat.reduceMul, Nat.reduceSub, Nat.reduceLT, Nat.zero_add, Nat.add_zero, not_false_eq_true, p_low, ← hg]
    by_cases hp : part = Int32.ofNat 0
    · rw [if_pos hp, if_pos hp]
    · rw [if_neg hp, if_neg hp]
  intro m
  induction m with
  | zero =>
    intro x y l hy hx hy' hg
    obtain rfl : y = 0 := by omega
    exact fin x l hx hg
  | succ m ih =>
    intro x y l hy hx hy' hg
    by_cases h0 : y = 0
    · rw [h0] at hg ⊢
      exact fin x l hx hg
    · rw [r8056_16]
      simp (disch := omega) only [r8056_18, r8056_19, r8056_20, r8056_23, r8056_25, r8056_27, r8056_28, r8056_30, r8056_32, r8056_34, r8056_36, r8056_38, g_cmp0, g_ne0, g_mod, va_rf_some, va_rf_none, cat_int, cat_ref, cat_null, cat_jk, q_cs_nil, q_cs_int, q_cs_ref, q_cs_long, q_tl_some, q_tl_none, nz_0, nz_1, nzn_0, nzn_1, nz_b, true_and, and_true, Nat.reduceLeDiff, Nat.reduceAdd, l_0, l_1, l_2, l_3, l_4, l_5, l_6, l_7, l_8, l_9, l_10, l_11, l_12, l_13, l_14, l_15, l_16, l_17, l_18, l_19, l_20, l_24, l_32, l_40, l_41, l_42, l_43, l_45, l_48, l_57, l_59, l_60, l_61, l_63, l_64, l_80, l_96, l_97, l_99, l_100, l_122, l_160, l_200, l_320, l_640, l_999, l_1000, l_1200, l_4000, l_99999, l_100000, l_100001, l_100002, l_100006, l_100010, l_252645135, l_858993459, l_1431655765, n_cl, n_lt, n_le, n_eq, n_in, n_add, n_mul, n_sub, n_div, n_mod, n_addneg, n_negl, n_nege, Nat.add_sub_cancel, d_ltT, d_ltF, d_leT, d_leF, d_eqT, d_eqF, ↓reduceIte, Nat.reduceLeDiff, Nat.reduceAdd, Nat.reduceMul, Nat.reduceSub, Nat.reduceLT, Nat.zero_add, Nat.add_zero, not_false_eq_true]
      have hm := Nat.mod_lt x (show 0 < y by omega)
      exact ih y (x % y) _ (by omega) (by omega) (by omega) (by rw [← hg, Nat.gcd_comm y, ← Nat.gcd_rec, Nat.gcd_comm])
theorem m_low {A B : Nat} {part : Int32} (hA : A < 4611686018427387904) (hB : B ≤ 200) (hB0 : 0 < B) (hp : part = 0 ∨ part = 1) :
    q_wp (d + 1) c 8056 0 [.long (Int64.ofNat A), q_jk, .long (Int64.ofNat B), q_jk, .int part, q_jk, q_jk, q_jk, q_jk, q_jk, q_jk] [] h Q = Q (some (.long (p_low A B part))) h := by
  by_cases hA0 : A = 0
  · rw [hA0]
    simp (disch := omega) only [r8056_0, r8056_1, r8056_2, r8056_3, r8056_6, r8056_8, r8056_9, g_cmp0, va_rf_some, va_rf_none, cat_int, cat_ref, cat_null, cat_jk, q_cs_nil, q_cs_int, q_cs_ref, q_cs_long, q_tl_some, q_tl_none, nz_0, nz_1, nzn_0, nzn_1, nz_b, true_and, and_true, Nat.reduceLeDiff, Nat.reduceAdd, l_0, l_1, l_2, l_3, l_4, l_5, l_6, l_7, l_8, l_9, l_10, l_11, l_12, l_13, l_14, l_15, l_16, l_17, l_18, l_19, l_20, l_24, l_32, l_40, l_41, l_42, l_43, l_45, l_48, l_57, l_59, l_60, l_61, l_63, l_64, l_80, l_96, l_97, l_99, l_100, l_122, l_160, l_200, l_320, l_640, l_999, l_1000, l_1200, l_4000, l_99999, l_100000, l_100001, l_100002, l_100006, l_100010, l_252645135, l_858993459, l_1431655765, n_cl, n_lt, n_le, n_eq, n_in, n_add, n_mul, n_sub, n_div, n_mod, n_addneg, n_negl, n_nege, Nat.add_sub_cancel, d_ltT, d_ltF, d_leT, d_leF, d_eqT, d_eqF, ↓reduceIte, Nat.reduceLeDiff, Nat.reduceAdd, Nat.reduceMul, Nat.reduceSub, Nat.reduceLT, Nat.zero_add, Nat.add_zero, not_false_eq_true]
    refine congrArg (fun x => Q (some (.long x)) h) ?_
    unfold p_low
    rw [Nat.gcd_zero_left]
    rcases hp with rfl | rfl
    · rw [if_pos rfl, Nat.zero_div]; rfl
    · rw [if_neg (by decide), Nat.div_self hB0]; rfl
  · refine Eq.trans ?_ (m_low_loop (d := d) (c := c) hA (by omega) hB0 B A B q_jk (Nat.le_refl _) hA (by omega) rfl)
    simp (disch := omega) only [r8056_0, r8056_1, r8056_2, r8056_3, r8056_6, r8056_8, r8056_9, r8056_10, r8056_11, r8056_13, r8056_14, g_cmp0, va_rf_some, va_rf_none, cat_int, cat_ref, cat_null, cat_jk, q_cs_nil, q_cs_int, q_cs_ref, q_cs_long, q_tl_some, q_tl_none, nz_0, nz_1, nzn_0, nzn_1, nz_b, true_and, and_true, Nat.reduceLeDiff, Nat.reduceAdd, l_0, l_1, l_2, l_3, l_4, l_5, l_6, l_7, l_8, l_9, l_10, l_11, l_12, l_13, l_14, l_15, l_16, l_17, l_18, l_19, l_20, l_24, l_32, l_40, l_41, l_42, l_43, l_45, l_48, l_57, l_59, l_60, l_61, l_63, l_64, l_80, l_96, l_97, l_99, l_100, l_122, l_160, l_200, l_320, l_640, l_999, l_1000, l_1200, l_4000, l_99999, l_100000, l_100001, l_100002, l_100006, l_100010, l_252645135, l_858993459, l_1431655765, n_cl, n_lt, n_le, n_eq, n_in, n_add, n_mul, n_sub, n_div, n_mod, n_addneg, n_negl, n_nege, Nat.add_sub_cancel, d_ltT, d_ltF, d_leT, d_leF, d_eqT, d_eqF, ↓reduceIte, Nat.reduceLeDiff, Nat.reduceAdd, Nat.reduceMul, Nat.reduceSub, Nat.reduceLT, Nat.zero_add, Nat.add_zero, not_false_eq_true, cat_jk, cat_int]
end
/-- how far a hand is from the throw -/
def p_z (a w : Nat) : Int32 := Int32.ofNat a - Int32.ofNat w
theorem z_i {a w : Nat} (ha : a ≤ 1000) (hw : w ≤ 1000) : (p_z a w).toInt = (a : Int) - w := by
  unfold p_z
  rw [t_sub (by rw [n_ti (by omega), n_ti (by omega)]; omega) (by rw [n_ti (by omega), n_ti (by omega)]; omega), n_ti (by omega), n_ti (by omega)]
theorem z_inc {a w : Nat} (ha : a < 1000) (hw : w ≤ 1000) : p_z a w + Int32.ofNat 1 = p_z (a + 1) w := by
  refine Int32.toInt.inj ?_
  rw [t_add (by rw [z_i (by omega) hw, n_ti (by omega)]; omega) (by rw [z_i (by omega) hw, n_ti (by omega)]; omega), z_i (by omega) hw, z_i (by omega) hw, n_ti (by omega)]
  omega
theorem z_lt {a w : Nat} (ha : a ≤ 1000) (hw : w ≤ 1000) : (Int32.ofNat w < p_z a w) = (2 * w < a) := by
  rw [t_lt, z_i ha hw, n_ti (by omega)]
  refine propext ?_
  omega
theorem z_0 {w : Nat} (hw : w ≤ 1000) : -Int32.ofNat w = p_z 0 w := by
  refine Int32.toInt.inj ?_
  rw [t_neg (by rw [n_ti (by omega)]; omega), z_i (by omega) hw, n_ti (by omega)]
  omega
theorem z_f {a w : Nat} : Int32.ofNat a - Int32.ofNat w = p_z a w := rfl
def p_hw (M : Nat → Nat → Int32) (k : Nat) (x : Int32) : Int32 := (M 145 k + x + 64) % 64
def p_hp (M : Nat → Nat → Int32) (k : Nat) (x : Int32) : Int32 := p_clp (M 146 k + x) 1 60
def p_hr (M : Nat → Nat → Int32) (k w v j : Nat) : Nat → Nat → Int32 := p_row M k (p_hw M k (p_z (j / (2 * v + 1)) w)) (p_hp M k (p_z (j % (2 * v + 1)) v)) false
theorem hw_b {M : Nat → Nat → Int32} {k : Nat} {x : Int32} (h : p_nb (M 145 k) 63) (h1 : -3 ≤ x.toInt) (h2 : x.toInt ≤ 3) : p_fm (M 145 k + x) (Int32.ofNat 64) = p_hw M k x ∧ p_nb (p_hw M k x) 63 := by
  obtain ⟨w, hw, e⟩ := h
  have iw : (M 145 k).toInt = w := by rw [e]; exact n_ti (by omega)
  have i64 : (64 : Int32).toInt = 64 := rfl
  have e1 : (M 145 k + x).toInt = w + x.toInt := by rw [t_add (by omega) (by omega), iw]
  have e2 : (M 145 k + x + 64).toInt = w + x.toInt + 64 := by rw [t_add (by rw [e1, i64]; omega) (by rw [e1, i64]; omega), e1, i64]
  have e3 : (M 145 k + x + Int32.ofNat 640).toInt = w + x.toInt + 640 := by rw [t_add (by rw [e1]; show -2147483648 ≤ (w : Int) + x.toInt + 640; omega) (by rw [e1]; show (w : Int) + x.toInt + 640 < 2147483648; omega), e1]; rfl
  unfold p_hw
  refine ⟨?_, ?_⟩
  · rw [p_fm64 (by omega) (by omega)]
    refine Int32.toInt.inj ?_
    rw [t_mod, t_mod, e2, e3, i64, show (Int32.ofNat 64).toInt = 64 from rfl, Int.tmod_eq_emod_of_nonneg (by omega), Int.tmod_eq_emod_of_nonneg (by omega)]
    omega
  · rw [x_of (x := M 145 k + x + 64) (by omega), e2, show (64 : Int32) = Int32.ofNat 64 from rfl, n_mod (by omega) (by omega)]
    exact ⟨_, by omega, rfl⟩
theorem hp_b {M : Nat → Nat → Int32} {k : Nat} {x : Int32} : p_nb (p_hp M k x) 60 := by
  have b := p_clp_b (v := M 146 k + x) (lo := 1) (hi := 60) (by decide)
  rw [show (1 : Int32).toInt = 1 from rfl, show (60 : Int32).toInt = 60 from rfl] at b
  unfold p_hp
  rw [x_of (x := p_clp (M 146 k + x) 1 60) (by omega)]
  exact ⟨_, by omega, rfl⟩
theorem z_b {a w : Nat} (ha : a ≤ 2 * w) (hw : w ≤ 3) : -3 ≤ (p_z a w).toInt ∧ (p_z a w).toInt ≤ 3 := by
  rw [z_i (by omega) (by omega)]
  omega
section
variable {d c L n : Nat} {Q : Option Value → q_H → Prop} {I M : Nat → Nat → Int32} {r : Nat → Nat → Option Nat} {dk : Nat → Nat × Nat}
theorem s_isHand {h : q_H} {x y : Int32} : q_wp (d + 2) c 7061 0 [.int x, .int y] [] h Q = Q (some (.int (if (0 ≤ x ∧ x ≤ 3) ∧ 0 ≤ y ∧ y ≤ 3 then 1 else 0))) h := by
  simp only [r7061_0, r7061_1, r7061_2, r7061_3, r7061_6, r7061_9, r7061_10, r7061_11, r7061_12, r7061_15, r7061_18, r7061_19, r7061_22, r7061_23, s_within, va_rf_some, va_rf_none, cat_int, cat_ref, cat_null, cat_jk, q_cs_nil, q_cs_int, q_cs_ref, q_cs_long, q_tl_some, q_tl_none, nz_0, nz_1, nzn_0, nzn_1, nz_b, true_and, and_true, Nat.reduceLeDiff, Nat.reduceAdd, l_0, l_1, l_2, l_3, l_4, l_5, l_6, l_7, l_8, l_9, l_10, l_11, l_12, l_13, l_14, l_15, l_16, l_17, l_18, l_19, l_20, l_24, l_32, l_40, l_41, l_42, l_43, l_45, l_48, l_57, l_59, l_60, l_61, l_63, l_64, l_80, l_96, l_97, l_99, l_100, l_122, l_160, l_200, l_320, l_640, l_999, l_1000, l_1200, l_4000, l_99999, l_100000, l_100001, l_100002, l_100006, l_100010, l_252645135, l_858993459, l_1431655765, b_eq0, b_eq1, b_0eq, ite_not, not_true_eq_false, not_false_eq_true, ↓reduceIte]
  by_cases h1 : Int32.ofNat 0 ≤ x ∧ x ≤ Int32.ofNat 3
  · by_cases h2 : Int32.ofNat 0 ≤ y ∧ y ≤ Int32.ofNat 3
    · rw [if_pos h1, if_pos h2, if_pos ⟨h1, h2⟩]
    · rw [if_pos h1, if_neg h2, if_neg fun z => h2 z.2]
  · rw [if_neg h1, if_neg fun z => h1 z.1]
theorem m_isHand {h : q_H} {x y : Int32} : q_wp (d + 2) c 8058 0 [.int x, .int y] [] h Q = Q (some (.int (if (0 ≤ x ∧ x ≤ 3) ∧ 0 ≤ y ∧ y ≤ 3 then 1 else 0))) h := by
  simp only [r8058_0, r8058_1, r8058_2, r8058_3, r8058_6, r8058_9, r8058_10, r8058_11, r8058_12, r8058_15, r8058_18, r8058_19, r8058_22, r8058_23, m_in, va_rf_some, va_rf_none, cat_int, cat_ref, cat_null, cat_jk, q_cs_nil, q_cs_int, q_cs_ref, q_cs_long, q_tl_some, q_tl_none, nz_0, nz_1, nzn_0, nzn_1, nz_b, true_and, and_true, Nat.reduceLeDiff, Nat.reduceAdd, l_0, l_1, l_2, l_3, l_4, l_5, l_6, l_7, l_8, l_9, l_10, l_11, l_12, l_13, l_14, l_15, l_16, l_17, l_18, l_19, l_20, l_24, l_32, l_40, l_41, l_42, l_43, l_45, l_48, l_57, l_59, l_60, l_61, l_63, l_64, l_80, l_96, l_97, l_99, l_100, l_122, l_160, l_200, l_320, l_640, l_999, l_1000, l_1200, l_4000, l_99999, l_100000, l_100001, l_100002, l_100006, l_100010, l_252645135, l_858993459, l_1431655765, b_eq0, b_eq1, b_0eq, ite_not, not_true_eq_false, not_false_eq_true, ↓reduceIte]
  by_cases h1 : Int32.ofNat 0 ≤ x ∧ x ≤ Int32.ofNat 3
  · by_cases h2 : Int32.ofNat 0 ≤ y ∧ y ≤ Int32.ofNat 3
    · rw [if_pos h1, if_pos h2, if_pos ⟨h1, h2⟩]
    · rw [if_pos h1, if_neg h2, if_neg fun z => h2 z.2]
  · rw [if_neg h1, if_neg fun z => h1 z.1]
theorem s_handSize {h : q_H} {w v : Nat} : q_wp (d + 1) c 7062 0 [.int (Int32.ofNat w), .int (Int32.ofNat v)] [] h Q = Q (some (.int (Int32.ofNat ((2 * w + 1) * (2 * v + 1))))) h := by
  simp (disch := omega) only [r7062_0, r7062_1, r7062_2, r7062_3, r7062_4, r7062_5, r7062_6, r7062_7, r7062_8, r7062_9, r7062_10, r7062_11, va_rf_some, va_rf_none, cat_int, cat_ref, cat_null, cat_jk, q_cs_nil, q_cs_int, q_cs_ref, q_cs_long, q_tl_some, q_tl_none, nz_0, nz_1, nzn_0, nzn_1, nz_b, true_and, and_true, Nat.reduceLeDiff, Nat.reduceAdd, l_0, l_1, l_2, l_3, l_4, l_5, l_6, l_7, l_8, l_9, l_10, l_11, l_12, l_13, l_14, l_15, l_16, l_17, l_18, l_19, l_20, l_24, l_32, l_40, l_41, l_42, l_43, l_45, l_48, l_57, l_59, l_60, l_61, l_63, l_64, l_80, l_96, l_97, l_99, l_100, l_122, l_160, l_200, l_320, l_640, l_999, l_1000, l_1200, l_4000, l_99999, l_100000, l_100001, l_100002, l_100006, l_100010, l_252645135, l_858993459, l_1431655765, n_cl, n_lt, n_le, n_eq, n_in, n_add, n_mul, n_sub, n_div, n_mod, n_addneg, n_negl, n_nege, Nat.add_sub_cancel, d_ltT, d_ltF, d_leT, d_leF, d_eqT, d_eqF, ↓reduceIte, Nat.reduceLeDiff, Nat.reduceAdd, Nat.reduceMul, Nat.reduceSub, Nat.reduceLT, Nat.zero_add, Nat.add_zero, not_false_eq_true]
theorem s_wayOff {k t : Nat} {x : Int32} (hto : p_to r dk I M k t) (h : p_nb (M 145 k) 63) (h1 : -3 ≤ x.toInt) (h2 : x.toInt ≤ 3) : q_wp (d + 2) c 6007 0 [.ref t, .int x] [] (p_h L I r dk n) Q = Q (some (.int (p_hw M k x))) (p_h L I r dk n) := by
  have kt : p_K L dk t = (6, 0) := (p_K_dyn hto.1).trans hto.2.1
  have h32 : 32 ≤ t := by have := hto.1; omega
  have h64 : ¬ (Int32.ofNat 64 = 0) := by decide
  simp (disch := omega) only [r6007_0, r6007_1, r6007_4, r6007_5, r6007_6, r6007_8, r6007_11, s_floorMod h64, hto.2.2.2.1, (hw_b h h1 h2).1, kt, h32, va_rf_some, va_rf_none, cat_int, cat_ref, cat_null, cat_jk, q_cs_nil, q_cs_int, q_cs_ref, q_cs_long, q_tl_some, q_tl_none, nz_0, nz_1, nzn_0, nzn_1, nz_b, true_and, and_true, Nat.reduceLeDiff, Nat.reduceAdd, l_0, l_1, l_2, l_3, l_4, l_5, l_6, l_7, l_8, l_9, l_10, l_11, l_12, l_13, l_14, l_15, l_16, l_17, l_18, l_19, l_20, l_24, l_32, l_40, l_41, l_42, l_43, l_45, l_48, l_57, l_59, l_60, l_61, l_63, l_64, l_80, l_96, l_97, l_99, l_100, l_122, l_160, l_200, l_320, l_640, l_999, l_1000, l_1200, l_4000, l_99999, l_100000, l_100001, l_100002, l_100006, l_100010, l_252645135, l_858993459, l_1431655765, n_cl, n_lt, n_le, n_eq, n_in, n_add, n_mul, n_sub, n_div, n_mod, n_addneg, n_negl, n_nege, Nat.add_sub_cancel, d_ltT, d_ltF, d_leT, d_leF, d_eqT, d_eqF, ↓reduceIte, Nat.reduceLeDiff, Nat.reduceAdd, Nat.reduceMul, Nat.reduceSub, Nat.reduceLT, Nat.zero_add, Nat.add_zero, not_false_eq_true]
theorem s_paceOff {k t : Nat} {x : Int32} (hto : p_to r dk I M k t) : q_wp (d + 3) c 6008 0 [.ref t, .int x] [] (p_h L I r dk n) Q = Q (some (.int (p_hp M k x))) (p_h L I r dk n) := by
  have kt : p_K L dk t = (6, 0) := (p_K_dyn hto.1).trans hto.2.1
  have h32 : 32 ≤ t := by have := hto.1; omega
  have h9 : Int32.ofNat 1 ≤ Int32.ofNat 60 := by decide
  simp (disch := first | omega | exact h9) only [r6008_0, r6008_1, r6008_4, r6008_5, r6008_6, r6008_7, r6008_9, r6008_12, s_clp, hto.2.2.2.2.1, kt, h32, va_rf_some, va_rf_none, cat_int, cat_ref, cat_null, cat_jk, q_cs_nil, q_cs_int, q_cs_ref, q_cs_long, q_tl_some, q_tl_none, nz_0, nz_1, nzn_0, nzn_1, nz_b, true_and, and_true, Nat.reduceLeDiff, Nat.reduceAdd, l_0, l_1, l_2, l_3, l_4, l_5, l_6, l_7, l_8, l_9, l_10, l_11, l_12, l_13, l_14, l_15, l_16, l_17, l_18, l_19, l_20, l_24, l_32, l_40, l_41, l_42, l_43, l_45, l_48, l_57, l_59, l_60, l_61, l_63, l_64, l_80, l_96, l_97, l_99, l_100, l_122, l_160, l_200, l_320, l_640, l_999, l_1000, l_1200, l_4000, l_99999, l_100000, l_100001, l_100002, l_100006, l_100010, l_252645135, l_858993459, l_1431655765, n_cl, n_lt, n_le, n_eq, n_in, n_add, n_mul, n_sub, n_div, n_mod, n_addneg, n_negl, n_nege, Nat.add_sub_cancel, d_ltT, d_ltF, d_leT, d_leF, d_eqT, d_eqF, ↓reduceIte, Nat.reduceLeDiff, Nat.reduceAdd, Nat.reduceMul, Nat.reduceSub, Nat.reduceLT, Nat.zero_add, Nat.add_zero, not_false_eq_true, p_hp]
theorem s_wander {k t w v j : Nat} (hto : p_to r dk I M k t) (h : p_nb (M 145 k) 63) (hw : w ≤ 3) (hv : v ≤ 3) (hj : j < (2 * w + 1) * (2 * v + 1)) : q_wp (d + 4) c 7063 0 [.ref 32, .ref t, .int (Int32.ofNat w), .int (Int32.ofNat v), .int (Int32.ofNat j), q_jk] [] (p_h L I r dk n) Q = Q none (p_h L (q_up (q_up I 45 5 (p_hw M k (p_z (j / (2 * v + 1)) w))) 45 6 (p_hp M k (p_z (j % (2 * v + 1)) v))) r dk n) := by
  have hto' : p_to r dk (q_up I 45 5 (p_hw M k (p_z (j / (2 * v + 1)) w))) M k t := by
    have := hto.1
    unfold p_to at hto ⊢
    rw [q_up_fa (by omega)]
    exact hto
  have hj49 : j < 49 := by
    have : (2 * w + 1) * (2 * v + 1) ≤ 7 * 7 := Nat.mul_le_mul (by omega) (by omega)
    omega
  have hd1 : j / (2 * v + 1) ≤ 2 * w := by
    have := (Nat.div_lt_iff_lt_mul (show 0 < 2 * v + 1 by omega)).2 hj
    omega
  have hd2 : j / (2 * v + 1) ≤ 49 := Nat.le_trans (Nat.div_le_self _ _) (by omega)
  have hm := Nat.mod_lt j (show 0 < 2 * v + 1 by omega)
  have hm2 : j % (2 * v + 1) ≤ 49 := by omega
  have zb := z_b hd1 hw
  have h32 : 32 ≤ t := by have := hto.1; omega
  have kt : p_K L dk t = (6, 0) := (p_K_dyn hto.1).trans hto.2.1
  have hne : ¬ (Int32.ofNat (2 * v + 1) = Int32.ofNat 0) := by rw [n_eq (by omega) (by omega)]; omega
  have w1 : ∀ (d' c' : Nat) (Q' : Option Value → q_H → Prop), _ := fun d' c' Q' => s_wayOff (d := d') (c := c') (L := L) (n := n) (Q := Q') hto h zb.1 zb.2
  have w2 : ∀ (d' c' : Nat) (Q' : Option Value → q_H → Prop), _ := fun d' c' Q' => s_paceOff (d := d') (c := c') (L := L) (n := n) (Q := Q') (x := p_z (j % (2 * v + 1)) v) hto'
  have ed : Int32.ofNat j / Int32.ofNat (2 * v + 1) = Int32.ofNat (j / (2 * v + 1)) := n_div (by omega) (by omega)
  have em : Int32.ofNat j % Int32.ofNat (2 * v + 1) = Int32.ofNat (j % (2 * v + 1)) := n_mod (by omega) (by omega)
  simp (disch := omega) only [r7063_0, r7063_1, r7063_2, r7063_3, r7063_4, r7063_5, r7063_7, r7063_8, r7063_11, r7063_11n, r7063_12, r7063_14, r7063_16, r7063_17, r7063_18, r7063_19, r7063_22, r7063_25, r7063_26, r7063_29, r7063_29n, r7063_30, r7063_32, r7063_34, r7063_35, r7063_36, r7063_37, r7063_40, r7063_43, z_f, w1, w2, kt, h32, hne, ed, em, va_rf_some, va_rf_none, cat_int, cat_ref, cat_null, cat_jk, q_cs_nil, q_cs_int, q_cs_ref, q_cs_long, q_tl_some, q_tl_none, nz_0, nz_1, nzn_0, nzn_1, nz_b, true_and, and_true, Nat.reduceLeDiff, Nat.reduceAdd, l_0, l_1, l_2, l_3, l_4, l_5, l_6, l_7, l_8, l_9, l_10, l_11, l_12, l_13, l_14, l_15, l_16, l_17, l_18, l_19, l_20, l_24, l_32, l_40, l_41, l_42, l_43, l_45, l_48, l_57, l_59, l_60, l_61, l_63, l_64, l_80, l_96, l_97, l_99, l_100, l_122, l_160, l_200, l_320, l_640, l_999, l_1000, l_1200, l_4000, l_99999, l_100000, l_100001, l_100002, l_100006, l_100010, l_252645135, l_858993459, l_1431655765, n_mul, n_add, n_cl, Nat.reduceMul, pK_32, pK_33, pK_34, pK_35, pK_36, pK_37, pK_38, pK_39, pK_40, pK_41, pK_42, pK_43, pK_44, pR_32_0, pR_32_1, pR_32_2, pR_32_3, pR_32_4, pR_32_5, pR_32_6, pR_32_7, pR_32_8, pR_33_0, pR_33_1, pR_33_2, pR_33_3, pR_36_0, pR_36_1, pR_36_2, pR_36_3, pR_37_0, pR_37_1, pR_37_3, pR_37_4, pR_42_0, pR_42_3, pK_124, pK_125, pK_126, pK_127, pK_128, pK_129, pK_130, pK_131, pK_132, pK_133, pK_134, pR_124_0, pR_126_0, pR_128_0, pR_130_0, pR_134_0, pR_134_1, pK_45, not_false_eq_true]
theorem m_byHand {k : Nat} {x y : Int32} (hW : p_wf M) (hM : p_MR I M) (hk : k < p_tn M) (h1 : -3 ≤ x.toInt) (h2 : x.toInt ≤ 3)
    (hQ : ∀ I', p_fl I (p_row M k (p_hw M k x) (p_hp M k y) false) (p_last (p_row M k (p_hw M k x) (p_hp M k y) false)) I' → Q none (p_h L I' r dk n)) :
    q_wp (d + 6) c 8057 0 [.ref 135, .int (Int32.ofNat k), .int x, .int y] [] (p_h L I r dk n) Q := by
  have h8 := (p_tn_eq hW).2
  have e145 := hM.1 145 (by decide) (by decide)
  have e146 := hM.1 146 (by decide) (by decide)
  have h64 : ¬ (Int32.ofNat 64 = Int32.ofNat 0) := by decide
  simp (disch := omega) only [r8057_0, r8057_1, r8057_2, r8057_3, r8057_6, r8057_7, r8057_8, r8057_9, r8057_10, r8057_12, r8057_13, r8057_15, r8057_16, r8057_17, r8057_20, r8057_21, r8057_22, r8057_23, r8057_24, r8057_25, r8057_27, r8057_30, r8057_31, m_clp, e145, e146, h64, va_rf_some, va_rf_none, cat_int, cat_ref, cat_null, cat_jk, q_cs_nil, q_cs_int, q_cs_ref, q_cs_long, q_tl_some, q_tl_none, nz_0, nz_1, nzn_0, nzn_1, nz_b, true_and, and_true, Nat.reduceLeDiff, Nat.reduceAdd, l_0, l_1, l_2, l_3, l_4, l_5, l_6, l_7, l_8, l_9, l_10, l_11, l_12, l_13, l_14, l_15, l_16, l_17, l_18, l_19, l_20, l_24, l_32, l_40, l_41, l_42, l_43, l_45, l_48, l_57, l_59, l_60, l_61, l_63, l_64, l_80, l_96, l_97, l_99, l_100, l_122, l_160, l_200, l_320, l_640, l_999, l_1000, l_1200, l_4000, l_99999, l_100000, l_100001, l_100002, l_100006, l_100010, l_252645135, l_858993459, l_1431655765, n_cl, n_lt, n_le, n_eq, n_in, n_add, n_mul, n_sub, n_div, n_mod, n_addneg, n_negl, n_nege, Nat.add_sub_cancel, d_ltT, d_ltF, d_leT, d_leF, d_eqT, d_eqF, ↓reduceIte, Nat.reduceLeDiff, Nat.reduceAdd, Nat.reduceMul, Nat.reduceSub, Nat.reduceLT, Nat.zero_add, Nat.add_zero, not_false_eq_true, pK_135, pK_136, pK_137, pK_138, pK_139, pK_140, pK_141, pK_142, pK_143, pK_144, pK_145, pK_146, pK_147, pK_148, pK_149, pK_150, pK_151, pK_152, pK_153, pK_154, pK_155, pK_156, pK_157, pK_158, pK_159, pK_160, pK_161, pK_162, pK_163, pK_164, pK_165, pK_166, pK_167, pK_168, pK_169, pK_170, pK_171, pK_172, pK_173, pK_174, pK_175, pK_176, pK_177, pK_178, pR_135_0, pR_135_2, pR_135_3, pR_135_4, pR_135_5, pR_135_6, pR_135_7, pR_135_11, pR_135_12, pR_135_13, pR_135_14, pR_135_15, pR_135_16, pR_135_17, pR_135_19, pR_135_20, pR_135_21, pR_135_23, pR_135_24, pR_135_33, pR_135_34, pR_135_35, pR_135_36, pR_135_37, pR_135_38, pR_135_39, pR_135_40, pR_135_41, pR_135_46, pR_135_47, pR_135_51, pR_135_52, pR_135_53, pR_135_54, pR_135_55, pR_135_56, pR_135_57, pR_135_58, pR_135_59, pR_135_61, pR_135_62, pR_135_63, pR_135_64]
  refine m_goes (w := p_hw M k x) (p := p_hp M k y) (mir := false) hM (wf_tw hW hk) (wf_rw hW) (hw_b (wf_way hW hk).1 h1 h2).2 hp_b fun I' hI' => ?_
  simp only [q_tl_none, r8057_34]
  exact hQ I' hI'
end
