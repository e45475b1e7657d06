/-! sums over a stick's pieces; kinds -/
def p_ska (a : Nat) : Prop := a = 69 ∨ a = 80 ∨ a = 91 ∨ a = 102 ∨ a = 113
theorem k_st {L a : Nat} {dk : Nat → Nat × Nat} (h : p_ska a) : p_K L dk a = (5, 0) ∧ p_K L dk (a + 1) = (103, 5) ∧ p_K L dk (a + 7) = (103, 3) ∧ 32 ≤ a ∧ 32 ≤ a + 1 := by
  rcases h with rfl | rfl | rfl | rfl | rfl <;> exact ⟨rfl, rfl, rfl, by decide, by decide⟩
theorem k_sr {r : Nat → Nat → Option Nat} {a : Nat} (h : p_ska a) : p_R r a 1 = some (a + 1) ∧ p_R r a 2 = some (a + 7) := by
  rcases h with rfl | rfl | rfl | rfl | rfl <;> exact ⟨rfl, rfl⟩
theorem k_row {L a : Nat} {r : Nat → Nat → Option Nat} {dk : Nat → Nat × Nat} (h : p_ska a) {j : Nat} (hj : j < 5) : p_R r (a + 1) j = some (a + 2 + j) ∧ p_K L dk (a + 2 + j) = (100, 6) := by
  have : j = 0 ∨ j = 1 ∨ j = 2 ∨ j = 3 ∨ j = 4 := by omega
  rcases h with rfl | rfl | rfl | rfl | rfl <;> rcases this with rfl | rfl | rfl | rfl | rfl <;> exact ⟨rfl, rfl⟩
theorem k_krow {L a : Nat} {r : Nat → Nat → Option Nat} {dk : Nat → Nat × Nat} (h : p_ska a) {j : Nat} (hj : j < 3) : p_R r (a + 7) j = some (a + 8 + j) ∧ p_K L dk (a + 8 + j) = (100, 6) := by
  have : j = 0 ∨ j = 1 ∨ j = 2 := by omega
  rcases h with rfl | rfl | rfl | rfl | rfl <;> rcases this with rfl | rfl | rfl <;> exact ⟨rfl, rfl⟩
def p_tc (I : Nat → Nat → Int32) (a row t p : Nat) : Int32 :=
  if t = 0 then I (a + 2 + row) p else if t = 1 then I (a + 2 + row) p * I (a + 2 + 4) p else I (a + 2 + row) p * I (a + 2 + 4) p * I (a + 2 + 4) p
theorem s_sum_loop {d c L n a row t sz : Nat} {Q : Option Value → q_H → Prop} {I : Nat → Nat → Int32} {r : Nat → Nat → Option Nat} {dk : Nat → Nat × Nat} (ha : p_ska a) (hrow : row < 3) (ht : t < 3) (hsz : I a 3 = Int32.ofNat sz) (hz : sz ≤ 6) :
    ∀ (m p : Nat) (l5 l6 : Value), l5.category = 1 → p + m = sz → q_wp (d + 1) c 5002 5 [.ref a, .int (Int32.ofNat row), .int (Int32.ofNat t), .int (p_sm (p_tc I a row t) p), .int (Int32.ofNat p), l5, l6] [] (p_h L I r dk n) Q = Q (some (.int (p_sm (p_tc I a row t) sz))) (p_h L I r dk n)
  | 0, p, l5, l6, c5, hp => by
    obtain ⟨k1, k2, k3, k4, k5⟩ := k_st (L := L) (dk := dk) ha
    obtain rfl : p = sz := hp
    rw [r5002_5]
    simp (disch := omega) only [r5002_7, r5002_8, r5002_11, r5002_65, r5002_66, va_rf_some, va_rf_none, cat_int, cat_ref, cat_null, cat_jk, q_cs_nil, q_cs_int, q_cs_ref, q_cs_long, q_tl_some, q_tl_none, nz_0, nz_1, nzn_0, nzn_1, nz_b, true_and, and_true, Nat.reduceLeDiff, Nat.reduceAdd, l_0, l_1, l_2, l_3, l_4, l_5, l_6, l_7, l_8, l_9, l_10, l_11, l_12, l_13, l_14, l_15, l_16, l_17, l_18, l_19, l_20, l_24, l_32, l_40, l_41, l_42, l_43, l_45, l_48, l_57, l_59, l_60, l_61, l_63, l_64, l_80, l_96, l_97, l_99, l_100, l_122, l_160, l_200, l_320, l_640, l_999, l_1000, l_1200, l_4000, l_99999, l_100000, l_100001, l_100002, l_100006, l_100010, l_252645135, l_858993459, l_1431655765, n_cl, n_lt, n_le, n_eq, n_in, n_add, n_mul, n_sub, n_div, n_mod, n_addneg, n_negl, n_nege, Nat.add_sub_cancel, d_ltT, d_ltF, d_leT, d_leF, d_eqT, d_eqF, ↓reduceIte, Nat.reduceLeDiff, Nat.reduceAdd, Nat.reduceMul, Nat.reduceSub, Nat.reduceLT, Nat.zero_add, Nat.add_zero, not_false_eq_true, k1, k4, hsz]
  | m + 1, p, l5, l6, c5, hp => by
    obtain ⟨k1, k2, k3, k4, k5⟩ := k_st (L := L) (dk := dk) ha
    obtain ⟨r1, r2⟩ := k_sr (r := r) ha
    obtain ⟨w1, w2⟩ := k_row (L := L) (dk := dk) (r := r) ha (show row < 5 by omega)
    obtain ⟨v1, v2⟩ := k_row (L := L) (dk := dk) (r := r) ha (show 4 < 5 by omega)
    refine Eq.trans ?_ (s_sum_loop (d := d) (c := c) ha hrow ht hsz hz m (p + 1) (.int (p_tc I a row t p)) (.int (Int32.ofNat t)) rfl (by omega))
    rw [r5002_5]
    have : t = 0 ∨ t = 1 ∨ t = 2 := by omega
    rcases this with rfl | rfl | rfl <;>
      simp (disch := omega) only [r5002_7, r5002_8, r5002_11, r5002_14, r5002_15, r5002_18, r5002_19, r5002_20, r5002_22, r5002_23, r5002_25, r5002_26, r5002_28, r5002_30, r5002_31, r5002_34, r5002_36, r5002_37, r5002_40, r5002_41, r5002_42, r5002_44, r5002_45, r5002_46, r5002_48, r5002_51, r5002_54, r5002_55, r5002_57, r5002_58, r5002_59, r5002_62, va_rf_some, va_rf_none, cat_int, cat_ref, cat_null, cat_jk, q_cs_nil, q_cs_int, q_cs_ref, q_cs_long, q_tl_some, q_tl_none, nz_0, nz_1, nzn_0, nzn_1, nz_b, true_and, and_true, Nat.reduceLeDiff, Nat.reduceAdd, l_0, l_1, l_2, l_3, l_4, l_5, l_6, l_7, l_8, l_9, l_10, l_11, l_12, l_13, l_14, l_15, l_16, l_17, l_18, l_19, l_20, l_24, l_32, l_40, l_41, l_42, l_43, l_45, l_48, l_57, l_59, l_60, l_61, l_63, l_64, l_80, l_96, l_97, l_99, l_100, l_122, l_160, l_200, l_320, l_640, l_999, l_1000, l_1200, l_4000, l_99999, l_100000, l_100001, l_100002, l_100006, l_100010, l_252645135, l_858993459, l_1431655765, n_cl, n_lt, n_le, n_eq, n_in, n_add, n_mul, n_sub, n_div, n_mod, n_addneg, n_negl, n_nege, Nat.add_sub_cancel, d_ltT, d_ltF, d_leT, d_leF, d_eqT, d_eqF, ↓reduceIte, Nat.reduceLeDiff, Nat.reduceAdd, Nat.reduceMul, Nat.reduceSub, Nat.reduceLT, Nat.zero_add, Nat.add_zero, not_false_eq_true, k1, k2, k4, k5, r1, w1, w2, v1, v2, hsz, c5, Nat.reduceGT] <;> rfl
theorem s_sum {d c L n a row t sz : Nat} {Q : Option Value → q_H → Prop} {I : Nat → Nat → Int32} {r : Nat → Nat → Option Nat} {dk : Nat → Nat × Nat} (ha : p_ska a) (hrow : row < 3) (ht : t < 3) (hsz : I a 3 = Int32.ofNat sz) (hz : sz ≤ 6) :
    q_wp (d + 1) c 5002 0 [.ref a, .int (Int32.ofNat row), .int (Int32.ofNat t), q_jk, q_jk, q_jk, q_jk] [] (p_h L I r dk n) Q = Q (some (.int (p_sm (p_tc I a row t) sz))) (p_h L I r dk n) := by
  refine Eq.trans ?_ (s_sum_loop (d := d) (c := c) ha hrow ht hsz hz sz 0 q_jk q_jk rfl (by omega))
  simp only [r5002_0, r5002_1, r5002_2, r5002_3, va_rf_some, va_rf_none, cat_int, cat_ref, cat_null, cat_jk, q_cs_nil, q_cs_int, q_cs_ref, q_cs_long, q_tl_some, q_tl_none, nz_0, nz_1, nzn_0, nzn_1, nz_b, true_and, and_true, Nat.reduceLeDiff, Nat.reduceAdd, l_0, l_1, l_2, l_3, l_4, l_5, l_6, l_7, l_8, l_9, l_10, l_11, l_12, l_13, l_14, l_15, l_16, l_17, l_18, l_19, l_20, l_24, l_32, l_40, l_41, l_42, l_43, l_45, l_48, l_57, l_59, l_60, l_61, l_63, l_64, l_80, l_96, l_97, l_99, l_100, l_122, l_160, l_200, l_320, l_640, l_999, l_1000, l_1200, l_4000, l_99999, l_100000, l_100001, l_100002, l_100006, l_100010, l_252645135, l_858993459, l_1431655765]
  rfl
/-- the arms in use, as bits -/
theorem p_or_lt (f : Nat → Int32) : ∀ k, (∀ p, p < k → ∃ z, z ≤ 3 ∧ f p = Int32.ofNat z) → ∃ z : Nat, z < 16 ∧ p_or f k = Int32.ofNat z
  | 0, _ => ⟨0, by omega, rfl⟩
  | k + 1, h => by
    obtain ⟨z, hz, e⟩ := p_or_lt f k fun p hp => h p (by omega)
    obtain ⟨a, ha, e2⟩ := h k (by omega)
    have : ∀ z : Fin 16, ∀ a : Fin 4, ∃ w : Fin 16, (Int32.ofNat z.1 ||| ((1 : Int32) <<< (Int32.ofNat a.1 &&& 31))) = Int32.ofNat w.1 := by decide
    obtain ⟨w, hw⟩ := this ⟨z, hz⟩ ⟨a, by omega⟩
    refine ⟨w.1, w.2, ?_⟩
    show (p_or f k ||| ((1 : Int32) <<< (f k &&& 31))) = _
    rw [e, e2]
    exact hw
def p_b1 (i : Int32) : Int32 := i - ((i.toUInt32 >>> (Int32.toUInt32 1 &&& Int32.toUInt32 31)).toInt32 &&& 1431655765)
def p_b2 (i : Int32) : Int32 := (i &&& 858993459) + ((i.toUInt32 >>> (Int32.toUInt32 2 &&& Int32.toUInt32 31)).toInt32 &&& 858993459)
def p_b3 (i : Int32) : Int32 := (i + (i.toUInt32 >>> (Int32.toUInt32 4 &&& Int32.toUInt32 31)).toInt32) &&& 252645135
def p_b4 (i : Int32) : Int32 := i + (i.toUInt32 >>> (Int32.toUInt32 8 &&& Int32.toUInt32 31)).toInt32
def p_b5 (i : Int32) : Int32 := i + (i.toUInt32 >>> (Int32.toUInt32 16 &&& Int32.toUInt32 31)).toInt32
def p_bc (i : Int32) : Int32 := p_b5 (p_b4 (p_b3 (p_b2 (p_b1 i)))) &&& 63
theorem s_bitCount {d c : Nat} {h : q_H} {Q : Option Value → q_H → Prop} {i : Int32} : q_wp (d + 1) c 9000 0 [.int i] [] h Q = Q (some (.int (p_bc i))) h := by
  simp only [r9000_0, r9000_1, r9000_2, r9000_3, r9000_4, r9000_7, r9000_8, r9000_9, r9000_10, r9000_11, r9000_14, r9000_15, r9000_16, r9000_17, r9000_18, r9000_21, r9000_22, r9000_23, r9000_24, r9000_25, r9000_26, r9000_27, r9000_28, r9000_29, r9000_32, r9000_33, r9000_34, r9000_35, r9000_36, r9000_38, r9000_39, r9000_40, r9000_41, r9000_42, r9000_43, r9000_45, r9000_46, r9000_47, r9000_48, r9000_49, r9000_51, r9000_52, va_rf_some, va_rf_none, cat_int, cat_ref, cat_null, cat_jk, q_cs_nil, q_cs_int, q_cs_ref, q_cs_long, q_tl_some, q_tl_none, nz_0, nz_1, nzn_0, nzn_1, nz_b, true_and, and_true, Nat.reduceLeDiff, Nat.reduceAdd]
  rfl
theorem p_bc4 {z : Nat} (hz : z < 16) : p_bc (Int32.ofNat z) = p_bits (Int32.ofNat z) := by
  have : ∀ z : Fin 16, p_bc (Int32.ofNat z.1) = p_bits (Int32.ofNat z.1) := by decide
  exact this ⟨z, hz⟩
theorem s_arms_loop {d c L n a sz : Nat} {Q : Option Value → q_H → Prop} {I : Nat → Nat → Int32} {r : Nat → Nat → Option Nat} {dk : Nat → Nat × Nat} (ha : p_ska a) (hsz : I a 3 = Int32.ofNat sz) (hz : sz ≤ 6) (hb : ∀ p, p < sz → ∃ z, z ≤ 3 ∧ I (a + 2 + 3) p = Int32.ofNat z) :
    ∀ (m p : Nat), p + m = sz → q_wp (d + 2) c 5003 4 [.ref a, .int (p_or (I (a + 2 + 3)) p), .int (Int32.ofNat p)] [] (p_h L I r dk n) Q = Q (some (.int (p_bits (p_or (I (a + 2 + 3)) sz)))) (p_h L I r dk n)
  | 0, p, hp => by
    obtain ⟨k1, k2, k3, k4, k5⟩ := k_st (L := L) (dk := dk) ha
    obtain rfl : p = sz := hp
    obtain ⟨z, hz, e⟩ := p_or_lt _ p hb
    rw [r5003_4]
    simp (disch := omega) only [r5003_5, r5003_6, r5003_9, r5003_31, r5003_32, r5003_35, va_rf_some, va_rf_none, cat_int, cat_ref, cat_null, cat_jk, q_cs_nil, q_cs_int, q_cs_ref, q_cs_long, q_tl_some, q_tl_none, nz_0, nz_1, nzn_0, nzn_1, nz_b, true_and, and_true, Nat.reduceLeDiff, Nat.reduceAdd, l_0, l_1, l_2, l_3, l_4, l_5, l_6, l_7, l_8, l_9, l_10, l_11, l_12, l_13, l_14, l_15, l_16, l_17, l_18, l_19, l_20, l_24, l_32, l_40, l_41, l_42, l_43, l_45, l_48, l_57, l_59, l_60, l_61, l_63, l_64, l_80, l_96, l_97, l_99, l_100, l_122, l_160, l_200, l_320, l_640, l_999, l_1000, l_1200, l_4000, l_99999, l_100000, l_100001, l_100002, l_100006, l_100010, l_252645135, l_858993459, l_1431655765, n_cl, n_lt, n_le, n_eq, n_in, n_add, n_mul, n_sub, n_div, n_mod, n_addneg, n_negl, n_nege, Nat.add_sub_cancel, d_ltT, d_ltF, d_leT, d_leF, d_eqT, d_eqF, ↓reduceIte, Nat.reduceLeDiff, Nat.reduceAdd, Nat.reduceMul, Nat.reduceSub, Nat.reduceLT, Nat.zero_add, Nat.add_zero, not_false_eq_true, k1, k4, hsz, e, s_bitCount, p_bc4 hz]
  | m + 1, p, hp => by
    obtain ⟨k1, k2, k3, k4, k5⟩ := k_st (L := L) (dk := dk) ha
    obtain ⟨r1, r2⟩ := k_sr (r := r) ha
    obtain ⟨v1, v2⟩ := k_row (L := L) (dk := dk) (r := r) ha (show 3 < 5 by omega)
    refine Eq.trans ?_ (s_arms_loop (d := d) (c := c) ha hsz hz hb m (p + 1) (by omega))
    rw [r5003_4]
    simp (disch := omega) only [r5003_5, r5003_6, r5003_9, r5003_12, r5003_13, r5003_14, r5003_15, r5003_18, r5003_19, r5003_20, r5003_21, r5003_22, r5003_23, r5003_24, r5003_25, r5003_28, va_rf_some, va_rf_none, cat_int, cat_ref, cat_null, cat_jk, q_cs_nil, q_cs_int, q_cs_ref, q_cs_long, q_tl_some, q_tl_none, nz_0, nz_1, nzn_0, nzn_1, nz_b, true_and, and_true, Nat.reduceLeDiff, Nat.reduceAdd, l_0, l_1, l_2, l_3, l_4, l_5, l_6, l_7, l_8, l_9, l_10, l_11, l_12, l_13, l_14, l_15, l_16, l_17, l_18, l_19, l_20, l_24, l_32, l_40, l_41, l_42, l_43, l_45, l_48, l_57, l_59, l_60, l_61, l_63, l_64, l_80, l_96, l_97, l_99, l_100, l_122, l_160, l_200, l_320, l_640, l_999, l_1000, l_1200, l_4000, l_99999, l_100000, l_100001, l_100002, l_100006, l_100010, l_252645135, l_858993459, l_1431655765, n_cl, n_lt, n_le, n_eq, n_in, n_add, n_mul, n_sub, n_div, n_mod, n_addneg, n_negl, n_nege, Nat.add_sub_cancel, d_ltT, d_ltF, d_leT, d_leF, d_eqT, d_eqF, ↓reduceIte, Nat.reduceLeDiff, Nat.reduceAdd, Nat.reduceMul, Nat.reduceSub, Nat.reduceLT, Nat.zero_add, Nat.add_zero, not_false_eq_true, k1, k2, k4, k5, r1, v1, v2, hsz]
    rfl
theorem s_arms {d c L n a sz : Nat} {Q : Option Value → q_H → Prop} {I : Nat → Nat → Int32} {r : Nat → Nat → Option Nat} {dk : Nat → Nat × Nat} (ha : p_ska a) (hsz : I a 3 = Int32.ofNat sz) (hz : sz ≤ 6) (hb : ∀ p, p < sz → ∃ z, z ≤ 3 ∧ I (a + 2 + 3) p = Int32.ofNat z) :
    q_wp (d + 2) c 5003 0 [.ref a, q_jk, q_jk] [] (p_h L I r dk n) Q = Q (some (.int (p_bits (p_or (I (a + 2 + 3)) sz)))) (p_h L I r dk n) := by
  refine Eq.trans ?_ (s_arms_loop (d := d) (c := c) ha hsz hz hb sz 0 (by omega))
  simp only [r5003_0, r5003_1, r5003_2, r5003_3, va_rf_some, va_rf_none, cat_int, cat_ref, cat_null, cat_jk, q_cs_nil, q_cs_int, q_cs_ref, q_cs_long, q_tl_some, q_tl_none, nz_0, nz_1, nzn_0, nzn_1, nz_b, true_and, and_true, Nat.reduceLeDiff, Nat.reduceAdd, l_0, l_1, l_2, l_3, l_4, l_5, l_6, l_7, l_8, l_9, l_10, l_11, l_12, l_13, l_14, l_15, l_16, l_17, l_18, l_19, l_20, l_24, l_32, l_40, l_41, l_42, l_43, l_45, l_48, l_57, l_59, l_60, l_61, l_63, l_64, l_80, l_96, l_97, l_99, l_100, l_122, l_160, l_200, l_320, l_640, l_999, l_1000, l_1200, l_4000, l_99999, l_100000, l_100001, l_100002, l_100006, l_100010, l_252645135, l_858993459, l_1431655765]
  rfl
