/-! the value of a part of the law, in the class -/
def p_dec (c : Int32) : Int32 :=
  if c < 11 then -1 - c else if 100000 ≤ c then c - 100000 else if c = 11 then -16 else if c = 12 then -17 else if c = 13 then -18 else if c = 14 then -14 else if c = 15 then -15 else if c = 16 then -11 else if c = 17 then -12 else if c = 18 then -13 else -19
theorem s_isName {d c : Nat} {h : q_H} {Q : Option Value → q_H → Prop} {s : Int32} : q_wp (d + 1) c 1001 0 [.int s] [] h Q = Q (some (.int (if s ≤ -1 ∧ -6 ≤ s then 1 else 0))) h := by
  simp only [r1001_0, r1001_1, r1001_2, r1001_5, r1001_6, r1001_8, r1001_11, r1001_12, r1001_15, r1001_16, va_rf_some, va_rf_none, cat_int, cat_ref, cat_null, cat_jk, q_cs_nil, q_cs_int, q_cs_ref, q_cs_long, q_tl_some, q_tl_none, nz_0, nz_1, nzn_0, nzn_1, nz_b, true_and, and_true, Nat.reduceLeDiff, Nat.reduceAdd]
  by_cases h1 : s ≤ -1
  · by_cases h2 : -6 ≤ s
    · simp [h1, h2, Int32.not_lt.2 h1, Int32.not_lt.2 h2, nz_1]
    · simp [h1, h2, nz_0, Int32.not_le.1 h2]
  · simp [h1, nz_0, Int32.not_le.1 h1]
def p_alt (s a : Int32) : Int32 := if s = -19 then -a else if a = 0 then 1 else 0
theorem s_altered {d c : Nat} {h : q_H} {Q : Option Value → q_H → Prop} {s a : Int32} : q_wp (d + 1) c 1003 0 [.int s, .int a] [] h Q = Q (some (.int (p_alt s a))) h := by
  simp only [r1003_0, r1003_1, r1003_3, r1003_6, r1003_7, r1003_8, r1003_9, r1003_10, r1003_13, r1003_14, r1003_17, r1003_18, va_rf_some, va_rf_none, cat_int, cat_ref, cat_null, cat_jk, q_cs_nil, q_cs_int, q_cs_ref, q_cs_long, q_tl_some, q_tl_none, nz_0, nz_1, nzn_0, nzn_1, nz_b, true_and, and_true, Nat.reduceLeDiff, Nat.reduceAdd, p_alt]
  by_cases h1 : s = -19 <;> by_cases h2 : a = 0 <;> simp [h1, h2]
def p_jn (s a b : Int32) : Int32 :=
  if s = -11 then a + b else if s = -12 then a - b else if s = -13 then a * b else if s = -14 then (if a < b then 1 else 0) else if s = -15 then (if a = b then 1 else 0)
  else if s = -16 then (if a = 0 then (if b = 0 then 0 else 1) else 1) else (if a = 0 then 0 else if b = 0 then 0 else 1)
theorem s_joined {d c : Nat} {h : q_H} {Q : Option Value → q_H → Prop} {s a b : Int32} (hs : s = -11 ∨ s = -12 ∨ s = -13 ∨ s = -14 ∨ s = -15 ∨ s = -16 ∨ s = -17) : q_wp (d + 1) c 1004 0 [.int s, .int a, .int b] [] h Q = Q (some (.int (p_jn s a b))) h := by
  rcases hs with rfl | rfl | rfl | rfl | rfl | rfl | rfl <;> simp [r1004_0, r1004_1, r1004_40, r1004_41, r1004_42, r1004_43, r1004_44, r1004_45, r1004_46, r1004_47, r1004_48, r1004_49, r1004_50, r1004_51, r1004_52, r1004_53, r1004_54, r1004_57, r1004_58, r1004_61, r1004_62, r1004_63, r1004_64, r1004_65, r1004_68, r1004_69, r1004_72, r1004_73, r1004_74, r1004_75, r1004_78, r1004_79, r1004_82, r1004_83, r1004_86, r1004_87, r1004_88, r1004_89, r1004_92, r1004_93, r1004_96, r1004_97, r1004_100, r1004_101, p_jn]
  · by_cases h1 : a < b
    · simp [h1, Int32.not_le.2 h1]
    · simp [h1, Int32.not_lt.1 h1]
  · by_cases h1 : a = b <;> simp [h1]
  · by_cases h1 : a = 0 <;> by_cases h2 : b = 0 <;> simp [h1, h2]
  · by_cases h1 : a = 0 <;> by_cases h2 : b = 0 <;> simp [h1, h2]
theorem p_dec_name {j : Nat} (hj : j ≤ 5) : p_dec (Int32.ofNat j) < 0 ∧ p_dec (Int32.ofNat j) ≤ -1 ∧ -6 ≤ p_dec (Int32.ofNat j) ∧ -1 - p_dec (Int32.ofNat j) = Int32.ofNat j := by
  have : j = 0 ∨ j = 1 ∨ j = 2 ∨ j = 3 ∨ j = 4 ∨ j = 5 := by omega
  rcases this with rfl | rfl | rfl | rfl | rfl | rfl <;> decide
theorem p_dec_num {j : Nat} (hj : j ≤ 9999) : p_dec (Int32.ofNat (100000 + j)) = Int32.ofNat j := by
  simp (disch := omega) only [p_dec, l_0, l_1, l_2, l_3, l_4, l_5, l_6, l_7, l_8, l_9, l_10, l_11, l_12, l_13, l_14, l_15, l_16, l_17, l_18, l_19, l_20, l_24, l_32, l_40, l_41, l_42, l_43, l_45, l_48, l_57, l_59, l_60, l_61, l_63, l_64, l_80, l_96, l_97, l_99, l_100, l_122, l_160, l_200, l_320, l_640, l_999, l_1000, l_1200, l_4000, l_99999, l_100000, l_100001, l_100002, l_100006, l_100010, l_252645135, l_858993459, l_1431655765, n_cl, n_lt, n_le, n_eq, n_in, n_add, n_mul, n_sub, n_div, n_mod, n_addneg, n_negl, n_nege, Nat.add_sub_cancel, d_ltT, d_ltF, d_leT, d_leF, d_eqT, d_eqF, ↓reduceIte, Nat.reduceLeDiff, Nat.reduceAdd, Nat.reduceMul, Nat.reduceSub, Nat.reduceLT, Nat.zero_add, Nat.add_zero, not_false_eq_true]
theorem p_dec_bin {s : Int32} (hs : p_isb s) : p_dec s < 0 ∧ ¬ (p_dec s ≤ -1 ∧ -6 ≤ p_dec s) ∧ ¬ p_dec s = -18 ∧ ¬ p_dec s = -19 ∧ (p_dec s = -11 ∨ p_dec s = -12 ∨ p_dec s = -13 ∨ p_dec s = -14 ∨ p_dec s = -15 ∨ p_dec s = -16 ∨ p_dec s = -17) ∧ ∀ a b, p_jn (p_dec s) a b = p_two s a b := by
  rcases hs with rfl | rfl | rfl | rfl | rfl | rfl | rfl <;> exact ⟨by decide, by decide, by decide, by decide, by decide, fun _ _ => rfl⟩
theorem n_neglt {j k : Nat} (hj : j < 2147483648) (hk : k < 2147483648) (h : 0 < k ∨ 0 < j) : (Int32.ofNat j ≤ -Int32.ofNat k) = False := by
  refine eq_false fun h => ?_
  rw [Int32.le_iff_toInt_le, t_neg (by rw [n_ti hk]; omega), n_ti hj, n_ti hk] at h
  omega
theorem i_ltF {x y : Int32} (h : x < y) : (y ≤ x) = False := eq_false (Int32.not_le.2 h)
theorem s_say_loop {d c L n b u v x y len part k1 : Nat} {Q : Option Value → q_H → Prop} {I0 : Nat → Nat → Int32} {r : Nat → Nat → Option Nat} {dk : Nat → Nat × Nat} {nm cd : Nat → Int32} (hb : 32 ≤ b) (hy : 32 ≤ y) (kb : p_K L dk b = (1, 0)) (ku : p_K L dk u = (100, len)) (kv : p_K L dk v = (100, 4)) (kx : p_K L dk x = (100, 6)) (ky : p_K L dk y = (100, 160)) (ru : p_R r b 0 = some u) (rv : p_R r b 1 = some v)
    (yb : b ≠ y) (yu : u ≠ y) (yv : v ≠ y) (yx : x ≠ y) (hpart : part < 3) (hk1 : I0 v (part + 1) = Int32.ofNat k1) (hk1b : k1 ≤ 160) (hlen : k1 ≤ len) (hnm : ∀ j, j < 6 → I0 x j = nm j) (hcd : ∀ k, k < k1 → I0 u k = p_dec (cd k)) (V : Int32)
    (hQ : ∀ I, (∀ a, a ≠ y → I a = I0 a) → Q (some (.int V)) (p_h L I r dk n)) :
    ∀ (m k : Nat) (st : List Int32) (I : Nat → Nat → Int32) (l6 : Value), k + m = k1 → p_wfr cd m k st.length → (p_run cd nm m k st).headD 0 = V → p_sk (I y) st → st.length ≤ k → (∀ a, a ≠ y → I a = I0 a) →
      q_wp (d + 2) c 1002 11 [.ref b, .int (Int32.ofNat part), .ref x, .ref y, .int (Int32.ofNat st.length), .int (Int32.ofNat k), l6] [] (p_h L I r dk n) Q
  | 0, k, st, I, l6, hk, hw, hV, hs, hl, hI => by
    have ev := hI v yv
    have hst : ∃ a, st = [a] := by
      match st, hw with
      | [a], _ => exact ⟨a, rfl⟩
    obtain ⟨a, rfl⟩ := hst
    have ha : I y 0 = a := hs.1
    rw [r1002_11]
    simp (disch := omega) only [r1002_13, r1002_14, r1002_17, r1002_18, r1002_19, r1002_20, r1002_21, r1002_155, r1002_157, r1002_158, r1002_161, r1002_161n, r1002_162, r1002_164, r1002_165, r1002_166, r1002_167, r1002_170, r1002_171, va_rf_some, va_rf_none, cat_int, cat_ref, cat_null, cat_jk, q_cs_nil, q_cs_int, q_cs_ref, q_cs_long, q_tl_some, q_tl_none, nz_0, nz_1, nzn_0, nzn_1, nz_b, true_and, and_true, Nat.reduceLeDiff, Nat.reduceAdd, l_0, l_1, l_2, l_3, l_4, l_5, l_6, l_7, l_8, l_9, l_10, l_11, l_12, l_13, l_14, l_15, l_16, l_17, l_18, l_19, l_20, l_24, l_32, l_40, l_41, l_42, l_43, l_45, l_48, l_57, l_59, l_60, l_61, l_63, l_64, l_80, l_96, l_97, l_99, l_100, l_122, l_160, l_200, l_320, l_640, l_999, l_1000, l_1200, l_4000, l_99999, l_100000, l_100001, l_100002, l_100006, l_100010, l_252645135, l_858993459, l_1431655765, n_cl, n_lt, n_le, n_eq, n_in, n_add, n_mul, n_sub, n_div, n_mod, n_addneg, n_negl, n_nege, Nat.add_sub_cancel, d_ltT, d_ltF, d_leT, d_leF, d_eqT, d_eqF, ↓reduceIte, Nat.reduceLeDiff, Nat.reduceAdd, Nat.reduceMul, Nat.reduceSub, Nat.reduceLT, Nat.zero_add, Nat.add_zero, not_false_eq_true, kb, ku, kv, kx, ky, ru, rv, ev, hk1, ha, hb, List.length_cons, List.length_nil]
    rw [show a = V from hV]
    exact hQ I hI
  | m + 1, k, st, I, l6, hk, hw, hV, hs, hl, hI => by
    have ev := hI v yv
    have eu := hI u yu
    have ex := hI x yx
    have hc := hcd k (by omega)
    have up : ∀ j w a, a ≠ y → q_up I y j w a = I0 a := fun j w a ha => by rw [q_up_fa ha]; exact hI a ha
    have hV : (p_run cd nm m (k + 1) (p_op (cd k) nm st)).headD 0 = V := hV
    rw [r1002_11]
    rcases hw with ⟨h1, hw⟩ | ⟨h1, h2, hw⟩ | ⟨h1, h2, hw⟩
    · rcases p_isp_cases h1 with ⟨j, hj, he⟩ | ⟨j, hj, he⟩
      · have hn := hnm j (by omega)
        obtain ⟨z1, z2, z3, z4⟩ := p_dec_name hj
        rw [he] at hc
        have z1' := i_ltF z1
        simp only [l_0, l_1, l_2, l_3, l_4, l_5, l_6, l_7, l_8, l_9, l_10, l_11, l_12, l_13, l_14, l_15, l_16, l_17, l_18, l_19, l_20, l_24, l_32, l_40, l_41, l_42, l_43, l_45, l_48, l_57, l_59, l_60, l_61, l_63, l_64, l_80, l_96, l_97, l_99, l_100, l_122, l_160, l_200, l_320, l_640, l_999, l_1000, l_1200, l_4000, l_99999, l_100000, l_100001, l_100002, l_100006, l_100010, l_252645135, l_858993459, l_1431655765] at z1 z1' z2 z3 z4
        simp (disch := omega) only [r1002_13, r1002_14, r1002_17, r1002_18, r1002_19, r1002_20, r1002_21, r1002_24, r1002_25, r1002_28, r1002_30, r1002_31, r1002_33, r1002_35, r1002_38, r1002_40, r1002_46, r1002_48, r1002_48n, r1002_49, r1002_50, r1002_53, r1002_53n, r1002_54, r1002_56, r1002_59, r1002_61, r1002_64, r1002_66, r1002_69, r1002_69n, r1002_70, r1002_71, r1002_73, r1002_74, r1002_75, r1002_76, r1002_79, r1002_81, r1002_83, r1002_86, r1002_88, r1002_90, r1002_93, r1002_95, r1002_96, r1002_99, r1002_99n, r1002_100, r1002_102, r1002_103, r1002_104, r1002_106, r1002_106n, r1002_107, r1002_109, r1002_110, r1002_111, r1002_112, r1002_115, r1002_116, r1002_119, r1002_121, r1002_122, r1002_125, r1002_128, r1002_128n, r1002_129, r1002_131, r1002_132, r1002_133, r1002_135, r1002_135n, r1002_136, r1002_138, r1002_139, r1002_140, r1002_141, r1002_141n, r1002_142, r1002_144, r1002_145, r1002_148, r1002_149, r1002_152, s_isName, r1002_43, va_rf_some, va_rf_none, cat_int, cat_ref, cat_null, cat_jk, q_cs_nil, q_cs_int, q_cs_ref, q_cs_long, q_tl_some, q_tl_none, nz_0, nz_1, nzn_0, nzn_1, nz_b, true_and, and_true, Nat.reduceLeDiff, Nat.reduceAdd, b_eq0, b_eq1, b_0eq, ite_not, not_true_eq_false, not_false_eq_true, ↓reduceIte, l_0, l_1, l_2, l_3, l_4, l_5, l_6, l_7, l_8, l_9, l_10, l_11, l_12, l_13, l_14, l_15, l_16, l_17, l_18, l_19, l_20, l_24, l_32, l_40, l_41, l_42, l_43, l_45, l_48, l_57, l_59, l_60, l_61, l_63, l_64, l_80, l_96, l_97, l_99, l_100, l_122, l_160, l_200, l_320, l_640, l_999, l_1000, l_1200, l_4000, l_99999, l_100000, l_100001, l_100002, l_100006, l_100010, l_252645135, l_858993459, l_1431655765, n_cl, n_lt, n_le, n_eq, n_in, n_add, n_mul, n_sub, n_div, n_mod, n_addneg, n_negl, n_nege, Nat.add_sub_cancel, d_ltT, d_ltF, d_leT, d_leF, d_eqT, d_eqF, ↓reduceIte, Nat.reduceLeDiff, Nat.reduceAdd, Nat.reduceMul, Nat.reduceSub, Nat.reduceLT, Nat.zero_add, Nat.add_zero, not_false_eq_true, kb, ku, kv, kx, ky, ru, rv, ev, eu, ex, hk1, hb, hy, hc, z1, z2, z3, z4, z1', hn, and_self]
        rw [he, p_op_name hj] at hV
        exact s_say_loop hb hy kb ku kv kx ky ru rv yb yu yv yx hpart hk1 hk1b hlen hnm hcd V hQ m (k + 1) (nm j :: st) _ _ (by omega) hw hV (p_sk_push hs) (by simp only [List.length_cons]; omega) (up _ _)
      · rw [he, p_dec_num hj] at hc
        simp (disch := omega) only [r1002_13, r1002_14, r1002_17, r1002_18, r1002_19, r1002_20, r1002_21, r1002_24, r1002_25, r1002_28, r1002_30, r1002_31, r1002_33, r1002_35, r1002_38, r1002_40, r1002_43, r1002_46, r1002_48, r1002_48n, r1002_49, r1002_50, r1002_53, r1002_53n, r1002_54, r1002_56, r1002_59, r1002_61, r1002_64, r1002_66, r1002_69, r1002_69n, r1002_70, r1002_71, r1002_73, r1002_74, r1002_75, r1002_76, r1002_79, r1002_81, r1002_83, r1002_86, r1002_88, r1002_90, r1002_93, r1002_95, r1002_96, r1002_99, r1002_99n, r1002_100, r1002_102, r1002_103, r1002_104, r1002_106, r1002_106n, r1002_107, r1002_109, r1002_110, r1002_111, r1002_112, r1002_115, r1002_116, r1002_119, r1002_121, r1002_122, r1002_125, r1002_128, r1002_128n, r1002_129, r1002_131, r1002_132, r1002_133, r1002_135, r1002_135n, r1002_136, r1002_138, r1002_139, r1002_140, r1002_141, r1002_141n, r1002_142, r1002_144, r1002_145, r1002_148, r1002_149, r1002_152, s_isName, va_rf_some, va_rf_none, cat_int, cat_ref, cat_null, cat_jk, q_cs_nil, q_cs_int, q_cs_ref, q_cs_long, q_tl_some, q_tl_none, nz_0, nz_1, nzn_0, nzn_1, nz_b, true_and, and_true, Nat.reduceLeDiff, Nat.reduceAdd, b_eq0, b_eq1, b_0eq, ite_not, not_true_eq_false, not_false_eq_true, ↓reduceIte, l_0, l_1, l_2, l_3, l_4, l_5, l_6, l_7, l_8, l_9, l_10, l_11, l_12, l_13, l_14, l_15, l_16, l_17, l_18, l_19, l_20, l_24, l_32, l_40, l_41, l_42, l_43, l_45, l_48, l_57, l_59, l_60, l_61, l_63, l_64, l_80, l_96, l_97, l_99, l_100, l_122, l_160, l_200, l_320, l_640, l_999, l_1000, l_1200, l_4000, l_99999, l_100000, l_100001, l_100002, l_100006, l_100010, l_252645135, l_858993459, l_1431655765, n_cl, n_lt, n_le, n_eq, n_in, n_add, n_mul, n_sub, n_div, n_mod, n_addneg, n_negl, n_nege, Nat.add_sub_cancel, d_ltT, d_ltF, d_leT, d_leF, d_eqT, d_eqF, ↓reduceIte, Nat.reduceLeDiff, Nat.reduceAdd, Nat.reduceMul, Nat.reduceSub, Nat.reduceLT, Nat.zero_add, Nat.add_zero, not_false_eq_true, kb, ku, kv, kx, ky, ru, rv, ev, eu, ex, hk1, hb, hy, hc]
        rw [he, p_op_num hj] at hV
        exact s_say_loop hb hy kb ku kv kx ky ru rv yb yu yv yx hpart hk1 hk1b hlen hnm hcd V hQ m (k + 1) (Int32.ofNat j :: st) _ _ (by omega) hw hV (p_sk_push hs) (by simp only [List.length_cons]; omega) (up _ _)
    · match st, h2, hw, hV, hs, hl with
      | a :: t, h2, hw, hV, hs, hl =>
        have ha : I y t.length = a := hs.1
        simp only [List.length_cons] at hl
        have hz : ∃ z, p_dec (cd k) = z ∧ z < 0 ∧ ¬ (z ≤ -1 ∧ -6 ≤ z) ∧ (z = -18 ∨ z = -19) ∧ p_op (cd k) nm (a :: t) = p_alt z a :: t := by
          rcases h1 with h | h <;> rw [h]
          · exact ⟨-18, by decide, by decide, by decide, by decide, rfl⟩
          · exact ⟨-19, by decide, by decide, by decide, by decide, rfl⟩
        obtain ⟨z, hz, z1, z2, z3, z4⟩ := hz
        rw [z4] at hV
        rw [hz] at hc
        have z1' := i_ltF z1
        simp only [l_0, l_1, l_2, l_3, l_4, l_5, l_6, l_7, l_8, l_9, l_10, l_11, l_12, l_13, l_14, l_15, l_16, l_17, l_18, l_19, l_20, l_24, l_32, l_40, l_41, l_42, l_43, l_45, l_48, l_57, l_59, l_60, l_61, l_63, l_64, l_80, l_96, l_97, l_99, l_100, l_122, l_160, l_200, l_320, l_640, l_999, l_1000, l_1200, l_4000, l_99999, l_100000, l_100001, l_100002, l_100006, l_100010, l_252645135, l_858993459, l_1431655765] at z1 z1' z2
        have fin := s_say_loop (d := d) (c := c) hb hy kb ku kv kx ky ru rv yb yu yv yx hpart hk1 hk1b hlen hnm hcd V hQ m (k + 1) (p_alt z a :: t) (q_up I y t.length (p_alt z a)) (.int z) (by omega) hw hV (p_sk_push hs.2) (by simp only [List.length_cons]; omega) (up _ _)
        by_cases h18 : z = -18
        · have h18' := h18
          simp only [l_0, l_1, l_2, l_3, l_4, l_5, l_6, l_7, l_8, l_9, l_10, l_11, l_12, l_13, l_14, l_15, l_16, l_17, l_18, l_19, l_20, l_24, l_32, l_40, l_41, l_42, l_43, l_45, l_48, l_57, l_59, l_60, l_61, l_63, l_64, l_80, l_96, l_97, l_99, l_100, l_122, l_160, l_200, l_320, l_640, l_999, l_1000, l_1200, l_4000, l_99999, l_100000, l_100001, l_100002, l_100006, l_100010, l_252645135, l_858993459, l_1431655765] at h18'
          simp (disch := omega) only [r1002_13, r1002_14, r1002_17, r1002_18, r1002_19, r1002_20, r1002_21, r1002_24, r1002_25, r1002_28, r1002_30, r1002_31, r1002_33, r1002_35, r1002_38, r1002_40, r1002_43, r1002_46, r1002_48, r1002_48n, r1002_49, r1002_50, r1002_53, r1002_53n, r1002_54, r1002_56, r1002_59, r1002_61, r1002_64, r1002_66, r1002_69, r1002_69n, r1002_70, r1002_71, r1002_73, r1002_74, r1002_75, r1002_76, r1002_79, r1002_81, r1002_83, r1002_86, r1002_88, r1002_90, r1002_93, r1002_95, r1002_96, r1002_99, r1002_99n, r1002_100, r1002_102, r1002_103, r1002_104, r1002_106, r1002_106n, r1002_107, r1002_109, r1002_110, r1002_111, r1002_112, r1002_115, r1002_116, r1002_119, r1002_121, r1002_122, r1002_125, r1002_128, r1002_128n, r1002_129, r1002_131, r1002_132, r1002_133, r1002_135, r1002_135n, r1002_136, r1002_138, r1002_139, r1002_140, r1002_141, r1002_141n, r1002_142, r1002_144, r1002_145, r1002_148, r1002_149, r1002_152, s_isName, s_altered, va_rf_some, va_rf_none, cat_int, cat_ref, cat_null, cat_jk, q_cs_nil, q_cs_int, q_cs_ref, q_cs_long, q_tl_some, q_tl_none, nz_0, nz_1, nzn_0, nzn_1, nz_b, true_and, and_true, Nat.reduceLeDiff, Nat.reduceAdd, b_eq0, b_eq1, b_0eq, ite_not, not_true_eq_false, not_false_eq_true, ↓reduceIte, l_0, l_1, l_2, l_3, l_4, l_5, l_6, l_7, l_8, l_9, l_10, l_11, l_12, l_13, l_14, l_15, l_16, l_17, l_18, l_19, l_20, l_24, l_32, l_40, l_41, l_42, l_43, l_45, l_48, l_57, l_59, l_60, l_61, l_63, l_64, l_80, l_96, l_97, l_99, l_100, l_122, l_160, l_200, l_320, l_640, l_999, l_1000, l_1200, l_4000, l_99999, l_100000, l_100001, l_100002, l_100006, l_100010, l_252645135, l_858993459, l_1431655765, n_cl, n_lt, n_le, n_eq, n_in, n_add, n_mul, n_sub, n_div, n_mod, n_addneg, n_negl, n_nege, Nat.add_sub_cancel, d_ltT, d_ltF, d_leT, d_leF, d_eqT, d_eqF, ↓reduceIte, Nat.reduceLeDiff, Nat.reduceAdd, Nat.reduceMul, Nat.reduceSub, Nat.reduceLT, Nat.zero_add, Nat.add_zero, not_false_eq_true, kb, ku, kv, kx, ky, ru, rv, ev, eu, ex, hk1, hb, hy, hc, z1, z1', z2, List.length_cons, ha]
          rw [if_pos h18']
          exact fin
        · have h19 : z = -19 := z3.resolve_left h18
          simp only [l_0, l_1, l_2, l_3, l_4, l_5, l_6, l_7, l_8, l_9, l_10, l_11, l_12, l_13, l_14, l_15, l_16, l_17, l_18, l_19, l_20, l_24, l_32, l_40, l_41, l_42, l_43, l_45, l_48, l_57, l_59, l_60, l_61, l_63, l_64, l_80, l_96, l_97, l_99, l_100, l_122, l_160, l_200, l_320, l_640, l_999, l_1000, l_1200, l_4000, l_99999, l_100000, l_100001, l_100002, l_100006, l_100010, l_252645135, l_858993459, l_1431655765] at h18 h19
          have h19 := eq_true h19
          simp (disch := omega) only [r1002_13, r1002_14, r1002_17, r1002_18, r1002_19, r1002_20, r1002_21, r1002_24, r1002_25, r1002_28, r1002_30, r1002_31, r1002_33, r1002_35, r1002_38, r1002_40, r1002_43, r1002_46, r1002_48, r1002_48n, r1002_49, r1002_50, r1002_53, r1002_53n, r1002_54, r1002_56, r1002_59, r1002_61, r1002_64, r1002_66, r1002_69, r1002_69n, r1002_70, r1002_71, r1002_73, r1002_74, r1002_75, r1002_76, r1002_79, r1002_81, r1002_83, r1002_86, r1002_88, r1002_90, r1002_93, r1002_95, r1002_96, r1002_99, r1002_99n, r1002_100, r1002_102, r1002_103, r1002_104, r1002_106, r1002_106n, r1002_107, r1002_109, r1002_110, r1002_111, r1002_112, r1002_115, r1002_116, r1002_119, r1002_121, r1002_122, r1002_125, r1002_128, r1002_128n, r1002_129, r1002_131, r1002_132, r1002_133, r1002_135, r1002_135n, r1002_136, r1002_138, r1002_139, r1002_140, r1002_141, r1002_141n, r1002_142, r1002_144, r1002_145, r1002_148, r1002_149, r1002_152, s_isName, s_altered, va_rf_some, va_rf_none, cat_int, cat_ref, cat_null, cat_jk, q_cs_nil, q_cs_int, q_cs_ref, q_cs_long, q_tl_some, q_tl_none, nz_0, nz_1, nzn_0, nzn_1, nz_b, true_and, and_true, Nat.reduceLeDiff, Nat.reduceAdd, b_eq0, b_eq1, b_0eq, ite_not, not_true_eq_false, not_false_eq_true, ↓reduceIte, l_0, l_1, l_2, l_3, l_4, l_5, l_6, l_7, l_8, l_9, l_10, l_11, l_12, l_13, l_14, l_15, l_16, l_17, l_18, l_19, l_20, l_24, l_32, l_40, l_41, l_42, l_43, l_45, l_48, l_57, l_59, l_60, l_61, l_63, l_64, l_80, l_96, l_97, l_99, l_100, l_122, l_160, l_200, l_320, l_640, l_999, l_1000, l_1200, l_4000, l_99999, l_100000, l_100001, l_100002, l_100006, l_100010, l_252645135, l_858993459, l_1431655765, n_cl, n_lt, n_le, n_eq, n_in, n_add, n_mul, n_sub, n_div, n_mod, n_addneg, n_negl, n_nege, Nat.add_sub_cancel, d_ltT, d_ltF, d_leT, d_leF, d_eqT, d_eqF, ↓reduceIte, Nat.reduceLeDiff, Nat.reduceAdd, Nat.reduceMul, Nat.reduceSub, Nat.reduceLT, Nat.zero_add, Nat.add_zero, not_false_eq_true, kb, ku, kv, kx, ky, ru, rv, ev, eu, ex, hk1, hb, hy, hc, z1, z1', z2, List.length_cons, ha, h18, h19]
          exact fin
    · match st, h2, hw, hV, hs, hl with
      | b1 :: a :: t, h2, hw, hV, hs, hl =>
        have hb1 : I y (t.length + 1) = b1 := hs.1
        have ha : I y t.length = a := hs.2.1
        simp only [List.length_cons] at hl
        rw [p_op_bin h1] at hV
        obtain ⟨z1, z2, z3, z4, z5, z6⟩ := p_dec_bin h1
        have z1' := i_ltF z1
        simp only [l_0, l_1, l_2, l_3, l_4, l_5, l_6, l_7, l_8, l_9, l_10, l_11, l_12, l_13, l_14, l_15, l_16, l_17, l_18, l_19, l_20, l_24, l_32, l_40, l_41, l_42, l_43, l_45, l_48, l_57, l_59, l_60, l_61, l_63, l_64, l_80, l_96, l_97, l_99, l_100, l_122, l_160, l_200, l_320, l_640, l_999, l_1000, l_1200, l_4000, l_99999, l_100000, l_100001, l_100002, l_100006, l_100010, l_252645135, l_858993459, l_1431655765] at z1 z1' z2 z3 z4
        simp (disch := omega) only [r1002_13, r1002_14, r1002_17, r1002_18, r1002_19, r1002_20, r1002_21, r1002_24, r1002_25, r1002_28, r1002_30, r1002_31, r1002_33, r1002_35, r1002_38, r1002_40, r1002_43, r1002_46, r1002_48, r1002_48n, r1002_49, r1002_50, r1002_53, r1002_53n, r1002_54, r1002_56, r1002_59, r1002_61, r1002_64, r1002_66, r1002_69, r1002_69n, r1002_70, r1002_71, r1002_73, r1002_74, r1002_75, r1002_76, r1002_79, r1002_81, r1002_83, r1002_86, r1002_88, r1002_90, r1002_93, r1002_95, r1002_96, r1002_99, r1002_99n, r1002_100, r1002_102, r1002_103, r1002_104, r1002_106, r1002_106n, r1002_107, r1002_109, r1002_110, r1002_111, r1002_112, r1002_115, r1002_116, r1002_119, r1002_121, r1002_122, r1002_125, r1002_128, r1002_128n, r1002_129, r1002_131, r1002_132, r1002_133, r1002_135, r1002_135n, r1002_136, r1002_138, r1002_139, r1002_140, r1002_141, r1002_141n, r1002_142, r1002_144, r1002_145, r1002_148, r1002_149, r1002_152, s_isName, s_joined z5, va_rf_some, va_rf_none, cat_int, cat_ref, cat_null, cat_jk, q_cs_nil, q_cs_int, q_cs_ref, q_cs_long, q_tl_some, q_tl_none, nz_0, nz_1, nzn_0, nzn_1, nz_b, true_and, and_true, Nat.reduceLeDiff, Nat.reduceAdd, b_eq0, b_eq1, b_0eq, ite_not, not_true_eq_false, not_false_eq_true, ↓reduceIte, l_0, l_1, l_2, l_3, l_4, l_5, l_6, l_7, l_8, l_9, l_10, l_11, l_12, l_13, l_14, l_15, l_16, l_17, l_18, l_19, l_20, l_24, l_32, l_40, l_41, l_42, l_43, l_45, l_48, l_57, l_59, l_60, l_61, l_63, l_64, l_80, l_96, l_97, l_99, l_100, l_122, l_160, l_200, l_320, l_640, l_999, l_1000, l_1200, l_4000, l_99999, l_100000, l_100001, l_100002, l_100006, l_100010, l_252645135, l_858993459, l_1431655765, n_cl, n_lt, n_le, n_eq, n_in, n_add, n_mul, n_sub, n_div, n_mod, n_addneg, n_negl, n_nege, Nat.add_sub_cancel, d_ltT, d_ltF, d_leT, d_leF, d_eqT, d_eqF, ↓reduceIte, Nat.reduceLeDiff, Nat.reduceAdd, Nat.reduceMul, Nat.reduceSub, Nat.reduceLT, Nat.zero_add, Nat.add_zero, not_false_eq_true, kb, ku, kv, kx, ky, ru, rv, ev, eu, ex, hk1, hb, hy, hc, z1, z1', z2, z3, z4, z6, List.length_cons, ha, hb1]
        exact s_say_loop hb hy kb ku kv kx ky ru rv yb yu yv yx hpart hk1 hk1b hlen hnm hcd V hQ m (k + 1) (p_two (cd k) a b1 :: t) _ _ (by omega) hw hV (p_sk_push hs.2.2) (by simp only [List.length_cons]; omega) (up _ _)
/-- the class's law at b (its words at u, its parts at v) says what the model's law t says -/
def p_lw (r : Nat → Nat → Option Nat) (dk : Nat → Nat × Nat) (L : Nat) (I M : Nat → Nat → Int32) (t b u v : Nat) : Prop :=
  (((132 ≤ b ∧ b < 135) ∨ 179 ≤ b) ∧ ((132 ≤ u ∧ u < 135) ∨ 179 ≤ u) ∧ ((132 ≤ v ∧ v < 135) ∨ 179 ≤ v)) ∧ p_K L dk b = (1, 0) ∧ (∃ len, p_K L dk u = (100, len) ∧ p_at M t 3 ≤ len) ∧ p_K L dk v = (100, 4) ∧ p_R r b 0 = some u ∧ p_R r b 1 = some v ∧
    (∀ j, j < 4 → I v j = M 154 (4 * t + j)) ∧ ∀ k, k < p_at M t 3 → I u k = p_dec (p_cd M t k)
theorem p_at_le {M : Nat → Nat → Int32} {t : Nat} (h : p_lawok M t) : p_at M t 1 ≤ p_at M t 3 ∧ p_at M t 2 ≤ p_at M t 3 := by
  have h0 := (h.2 0 (by omega)).1
  have h1 := (h.2 1 (by omega)).1
  have h2 := (h.2 2 (by omega)).1
  exact ⟨Nat.le_trans h1 h2, h2⟩
theorem s_say {d c L n b u v x y part rl : Nat} {Q : Option Value → q_H → Prop} {I M : Nat → Nat → Int32} {r : Nat → Nat → Option Nat} {dk : Nat → Nat × Nat} {nm : Nat → Int32} (hb : p_lw r dk L I M rl b u v) (hx : 45 ≤ x ∧ x ≤ 68) (hy : 45 ≤ y ∧ y ≤ 68) (hxy : x ≠ y) (kx : p_K L dk x = (100, 6)) (ky : p_K L dk y = (100, 160)) (hrl : rl < 6) (er : M 135 26 = Int32.ofNat rl) (hw : p_lawok M rl) (hpart : part < 3) (hnm : ∀ j, j < 6 → I x j = nm j)
    (hQ : ∀ I', (∀ a, a ≠ y → I' a = I a) → Q (some (.int (p_val M part nm))) (p_h L I' r dk n)) :
    q_wp (d + 2) c 1002 0 [.ref b, .int (Int32.ofNat part), .ref x, .ref y, q_jk, q_jk, q_jk] [] (p_h L I r dk n) Q := by
  obtain ⟨⟨a1, a2, a3⟩, kb, ⟨len, ku, hlen⟩, kv, ru, rv, hv, hu⟩ := hb
  have h0 := (hw.1 part (by omega)).1
  have h1 := (hw.1 (part + 1) (by omega)).1
  have b1 := (hw.1 (part + 1) (by omega)).2
  have b0 := (hw.2 part hpart).1
  have w0 := (hw.2 part hpart).2
  have e0 := (hv part (by omega)).trans h0
  have e1 := (hv (part + 1) (by omega)).trans h1
  have h3 := p_at_le hw
  have h3' : p_at M rl (part + 1) ≤ p_at M rl 3 := by
    have : part = 0 ∨ part = 1 ∨ part = 2 := by omega
    rcases this with rfl | rfl | rfl
    · exact h3.1
    · exact h3.2
    · exact Nat.le_refl _
  have hb32 : 32 ≤ b := by omega
  simp (disch := omega) only [r1002_0, r1002_1, r1002_3, r1002_4, r1002_7, r1002_8, r1002_9, va_rf_some, va_rf_none, cat_int, cat_ref, cat_null, cat_jk, q_cs_nil, q_cs_int, q_cs_ref, q_cs_long, q_tl_some, q_tl_none, nz_0, nz_1, nzn_0, nzn_1, nz_b, true_and, and_true, Nat.reduceLeDiff, Nat.reduceAdd, l_0, l_1, l_2, l_3, l_4, l_5, l_6, l_7, l_8, l_9, l_10, l_11, l_12, l_13, l_14, l_15, l_16, l_17, l_18, l_19, l_20, l_24, l_32, l_40, l_41, l_42, l_43, l_45, l_48, l_57, l_59, l_60, l_61, l_63, l_64, l_80, l_96, l_97, l_99, l_100, l_122, l_160, l_200, l_320, l_640, l_999, l_1000, l_1200, l_4000, l_99999, l_100000, l_100001, l_100002, l_100006, l_100010, l_252645135, l_858993459, l_1431655765, n_cl, n_lt, n_le, n_eq, n_in, n_add, n_mul, n_sub, n_div, n_mod, n_addneg, n_negl, n_nege, Nat.add_sub_cancel, d_ltT, d_ltF, d_leT, d_leF, d_eqT, d_eqF, ↓reduceIte, Nat.reduceLeDiff, Nat.reduceAdd, Nat.reduceMul, Nat.reduceSub, Nat.reduceLT, Nat.zero_add, Nat.add_zero, not_false_eq_true, kb, kv, rv, e0, hb32]
  have hrl' : p_rl M = rl := by unfold p_rl; rw [er, n_cl (by omega)]
  exact s_say_loop hb32 (by omega) kb ku kv kx ky ru rv (by omega) (by omega) (by omega) hxy hpart e1 b1 (by omega) hnm (fun k hk => hu k (by omega)) (p_val M part nm) hQ (p_at M rl (part + 1) - p_at M rl part) (p_at M rl part) [] I _ (by omega) w0 (by unfold p_val; rw [hrl']) trivial (Nat.zero_le _) (fun _ _ => rfl)
