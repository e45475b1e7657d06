/-! the class's flight: begun, a step, all of it -/
theorem s_startHeight {d c L n i t : Nat} {Q : Option Value → q_H → Prop} {I M : Nat → Nat → Int32} {r : Nat → Nat → Option Nat} {dk : Nat → Nat × Nat} (hc : p_con I M) (ht : p_to r dk I M i t) (hk : p_nb (M 143 i) 5) :
    q_wp (d + 3) c 6003 0 [.ref t] [] (p_h L I r dk n) Q = Q (some (.int (p_hi M i))) (p_h L I r dk n) := by
  obtain ⟨t1, t2, t3, -, -, -, -, t4, -⟩ := ht
  obtain ⟨-, c0, c1, c2, c3, c4, c5⟩ := hc
  obtain ⟨kd, hkd, ek⟩ := hk
  have kt : p_K L dk t = (6, 0) := (p_K_dyn t1).trans t2
  have h32 : 32 ≤ t := by omega
  have ek' := t3.trans ek
  have hK : ∀ (d' c' : Nat) (Q' : Option Value → q_H → Prop), q_wp (d' + 1) c' 6002 0 [.int (Int32.ofNat kd), .int (Int32.ofNat 3), q_jk, q_jk] [] (p_h L I r dk n) Q' = Q' (some (.int (if kd = 3 ∨ kd = 5 then Int32.ofNat 1 else Int32.ofNat 0))) (p_h L I r dk n) := fun d' c' Q' => by
    rw [s_isKind c0 c1 c2 c3 c4 c5 hkd (by decide)]
    refine congrArg (fun x => Q' (some (.int x)) _) ?_
    by_cases h : kd = 3 ∨ kd = 5
    · rw [if_pos (by omega), if_pos h]; rfl
    · rw [if_neg (by omega), if_neg h]; rfl
  simp (disch := omega) only [r6003_0, r6003_1, r6003_2, r6003_5, r6003_8, r6003_10, r6003_11, r6003_14, r6003_15, r6003_18, r6003_20, r6001_0, r6001_1, r6001_4, r6001_5, r6001_8, hK, va_rf_some, va_rf_none, cat_int, cat_ref, cat_null, cat_jk, q_cs_nil, q_cs_int, q_cs_ref, q_cs_long, q_tl_some, q_tl_none, nz_0, nz_1, nzn_0, nzn_1, nz_b, true_and, and_true, Nat.reduceLeDiff, Nat.reduceAdd, l_0, l_1, l_2, l_3, l_4, l_5, l_6, l_7, l_8, l_9, l_10, l_11, l_12, l_13, l_14, l_15, l_16, l_17, l_18, l_19, l_20, l_24, l_32, l_40, l_41, l_42, l_43, l_45, l_48, l_57, l_59, l_60, l_61, l_63, l_64, l_80, l_96, l_97, l_99, l_100, l_122, l_160, l_200, l_320, l_640, l_999, l_1000, l_1200, l_4000, l_99999, l_100000, l_100001, l_100002, l_100006, l_100010, l_252645135, l_858993459, l_1431655765, n_cl, n_lt, n_le, n_eq, n_in, n_add, n_mul, n_sub, n_div, n_mod, n_addneg, n_negl, n_nege, Nat.add_sub_cancel, d_ltT, d_ltF, d_leT, d_leF, d_eqT, d_eqF, ↓reduceIte, Nat.reduceLeDiff, Nat.reduceAdd, Nat.reduceMul, Nat.reduceSub, Nat.reduceLT, Nat.zero_add, Nat.add_zero, not_false_eq_true, kt, h32, ek', t4, nzn_b, b_eq0, ite_not, p_hi, ek]
  by_cases h : kd = 3 ∨ kd = 5
  · rw [if_pos h, if_pos h]
  · rw [if_neg h, if_neg h]; rfl
theorem s_isDown {d c L n f k : Nat} {z : Int32} {Q : Option Value → q_H → Prop} {I : Nat → Nat → Int32} {r : Nat → Nat → Option Nat} {dk : Nat → Nat × Nat} (hf : f = 45 ∨ f = 57) (h1 : I f 1 = Int32.ofNat k) (hk : k ≤ 40) (hz : I (f + 4) k = z) :
    q_wp (d + 1) c 9 0 [.ref f] [] (p_h L I r dk n) Q = Q (some (.int (if z = 0 then 1 else 0))) (p_h L I r dk n) := by
  obtain ⟨k0, k1, k2, k3, k4, k5, k6, k7, k8, k9, k10, k11⟩ := k_fl (L := L) (r := r) (dk := dk) hf
  obtain ⟨r0, r1, r2, r3, r4, r5, r6, r7, r8, r9, r10, r11, r12, r13⟩ := k_fr (r := r) hf
  have h32 : 32 ≤ f := by omega
  simp (disch := omega) only [r9_0, r9_1, r9_4, r9_5, r9_6, r9_7, r9_10, r9_11, r9_14, r9_15, r9_18, r9_19, q_join, va_rf_some, va_rf_none, cat_int, cat_ref, cat_null, cat_jk, q_cs_nil, q_cs_int, q_cs_ref, q_cs_long, q_tl_some, q_tl_none, nz_0, nz_1, nzn_0, nzn_1, nz_b, true_and, and_true, Nat.reduceLeDiff, Nat.reduceAdd, l_0, l_1, l_2, l_3, l_4, l_5, l_6, l_7, l_8, l_9, l_10, l_11, l_12, l_13, l_14, l_15, l_16, l_17, l_18, l_19, l_20, l_24, l_32, l_40, l_41, l_42, l_43, l_45, l_48, l_57, l_59, l_60, l_61, l_63, l_64, l_80, l_96, l_97, l_99, l_100, l_122, l_160, l_200, l_320, l_640, l_999, l_1000, l_1200, l_4000, l_99999, l_100000, l_100001, l_100002, l_100006, l_100010, l_252645135, l_858993459, l_1431655765, n_cl, n_lt, n_le, n_eq, n_in, n_add, n_mul, n_sub, n_div, n_mod, n_addneg, n_negl, n_nege, Nat.add_sub_cancel, d_ltT, d_ltF, d_leT, d_leF, d_eqT, d_eqF, ↓reduceIte, Nat.reduceLeDiff, Nat.reduceAdd, Nat.reduceMul, Nat.reduceSub, Nat.reduceLT, Nat.zero_add, Nat.add_zero, not_false_eq_true, h32, k0, k1, k4, r0, r3, h1, hz]
  split <;> rfl
theorem s_goesOn {d c L n f k : Nat} {z : Int32} {Q : Option Value → q_H → Prop} {I : Nat → Nat → Int32} {r : Nat → Nat → Option Nat} {dk : Nat → Nat × Nat} (hf : f = 45 ∨ f = 57) (h1 : I f 1 = Int32.ofNat k) (hk : k ≤ 40) (hz : I (f + 4) k = z) :
    q_wp (d + 2) c 4 0 [.ref f] [] (p_h L I r dk n) Q = Q (some (.int (if k < 40 ∧ ¬ z = 0 then 1 else 0))) (p_h L I r dk n) := by
  obtain ⟨k0, -⟩ := k_fl (L := L) (r := r) (dk := dk) hf
  have h32 : 32 ≤ f := by omega
  simp (disch := omega) only [r4_0, r4_1, r4_4, r4_6, r4_9, r4_10, r4_13, r4_16, r4_17, r4_20, r4_21, s_isDown hf h1 hk hz, va_rf_some, va_rf_none, cat_int, cat_ref, cat_null, cat_jk, q_cs_nil, q_cs_int, q_cs_ref, q_cs_long, q_tl_some, q_tl_none, nz_0, nz_1, nzn_0, nzn_1, nz_b, true_and, and_true, Nat.reduceLeDiff, Nat.reduceAdd, l_0, l_1, l_2, l_3, l_4, l_5, l_6, l_7, l_8, l_9, l_10, l_11, l_12, l_13, l_14, l_15, l_16, l_17, l_18, l_19, l_20, l_24, l_32, l_40, l_41, l_42, l_43, l_45, l_48, l_57, l_59, l_60, l_61, l_63, l_64, l_80, l_96, l_97, l_99, l_100, l_122, l_160, l_200, l_320, l_640, l_999, l_1000, l_1200, l_4000, l_99999, l_100000, l_100001, l_100002, l_100006, l_100010, l_252645135, l_858993459, l_1431655765, n_cl, n_lt, n_le, n_eq, n_in, n_add, n_mul, n_sub, n_div, n_mod, n_addneg, n_negl, n_nege, Nat.add_sub_cancel, d_ltT, d_ltF, d_leT, d_leF, d_eqT, d_eqF, ↓reduceIte, Nat.reduceLeDiff, Nat.reduceAdd, Nat.reduceMul, Nat.reduceSub, Nat.reduceLT, Nat.zero_add, Nat.add_zero, not_false_eq_true, h32, k0, h1, b_eq0, ite_not]
  by_cases a : 40 ≤ k
  · rw [if_pos a, if_neg (by omega)]
  · rw [if_neg a]
    by_cases b : z = Int32.ofNat 0
    · rw [if_pos b, if_neg (by intro h; exact h.2 b)]
    · rw [if_neg b, if_pos ⟨by omega, b⟩]
theorem s_begin {d c L n f i t st b u v : Nat} {w p : Int32} {mir : Bool} {Q : Option Value → q_H → Prop} {I M : Nat → Nat → Int32} {r : Nat → Nat → Option Nat} {dk : Nat → Nat × Nat} (hf : f = 45 ∨ f = 57) (hc : p_con I M) (ha : p_fa f L r dk I M i w p mir t st b u v) (ht : p_tw M i) (hs : p_swf M (p_si M i))
    (hQ : ∀ I', p_cfl f I (p_row M i w p mir) 0 I' → (∀ j, j < 3 → I' (f + 11) j = p_share M (p_si M i) j) → Q none (p_h L I' r dk n)) :
    q_wp (d + 4) c 3 0 [.ref f, q_jk] [] (p_h L I r dk n) Q := by
  have ha' := ha
  obtain ⟨a1, a2, a3, a4, a5, a6, a7, a8, hto, hsk, hst, hlw⟩ := ha
  obtain ⟨k0, k1, k2, k3, k4, k5, k6, k7, k8, k9, k10, k11⟩ := k_fl (L := L) (r := r) (dk := dk) hf
  obtain ⟨r0, r1, r2, r3, r4, r5, r6, r7, r8, r9, r10, r11, r12, r13⟩ := k_fr (r := r) hf
  have h32 : 32 ≤ f := by omega
  have hto' := hto
  obtain ⟨t1, t2, t3, t3a, t3b, t3c, t3d, t4, -⟩ := hto
  have kt : p_K L dk t = (6, 0) := (p_K_dyn t1).trans t2
  have ht32 : 32 ≤ t := by omega
  have kst := (k_st (L := L) (dk := dk) hsk).1
  have hst32 := (k_st (L := L) (dk := dk) hsk).2.2.2.1
  -- calls over a heap that differs from I in the flight alone
  have fr : ∀ J : Nat → Nat → Int32, (∀ a, ¬(f ≤ a ∧ a ≤ f + 11) → J a = I a) → p_con J M ∧ p_to r dk J M i t ∧ p_stk J M st (p_si M i) := fun J hJ => by
    have et : J t = I t := hJ t (by omega)
    have es : ∀ j, j ≤ 10 → J (st + j) = I (st + j) := fun j hj => hJ _ (by rcases hsk with rfl | rfl | rfl | rfl | rfl <;> omega)
    refine ⟨?_, ?_, ?_⟩
    · unfold p_con at hc ⊢
      rw [hJ 0 (by omega), hJ 1 (by omega)]
      exact hc
    · unfold p_to at hto' ⊢
      rw [et]
      exact hto'
    · refine ⟨by rw [show J st = I st from es 0 (by omega)]; exact hst.1, fun q hq => ?_⟩
      rw [es 2 (by omega), es 3 (by omega), es 4 (by omega), es 5 (by omega), es 6 (by omega)]
      exact hst.2 q hq
  have hH : ∀ (d' c' : Nat) (Q' : Option Value → q_H → Prop) (J : Nat → Nat → Int32), (∀ a, ¬(f ≤ a ∧ a ≤ f + 11) → J a = I a) → q_wp (d' + 3) c' 6003 0 [.ref t] [] (p_h L J r dk n) Q' = Q' (some (.int (p_hi M i))) (p_h L J r dk n) := fun d' c' Q' J hJ =>
    s_startHeight (fr J hJ).1 (fr J hJ).2.1 ht.2.1
  have hS : ∀ (d' c' row t' : Nat) (Q' : Option Value → q_H → Prop) (J : Nat → Nat → Int32), (∀ a, ¬(f ≤ a ∧ a ≤ f + 11) → J a = I a) → ((row = 0 ∧ t' = 1) ∨ (row = 1 ∧ t' = 1) ∨ (row = 2 ∧ t' = 0)) → q_wp (d' + 1) c' 5002 0 [.ref st, .int (Int32.ofNat row), .int (Int32.ofNat t'), q_jk, q_jk, q_jk, q_jk] [] (p_h L J r dk n) Q' = Q' (some (.int (p_sum M (p_si M i) row))) (p_h L J r dk n) := fun d' c' row t' Q' J hJ hr =>
    s_sumM hsk (fr J hJ).2.2 hs (by omega)
  have hA : ∀ (d' c' : Nat) (Q' : Option Value → q_H → Prop) (J : Nat → Nat → Int32), (∀ a, ¬(f ≤ a ∧ a ≤ f + 11) → J a = I a) → q_wp (d' + 2) c' 5003 0 [.ref st, q_jk, q_jk] [] (p_h L J r dk n) Q' = Q' (some (.int (p_sum M (p_si M i) 4))) (p_h L J r dk n) := fun d' c' Q' J hJ =>
    s_armsM hsk (fr J hJ).2.2 hs
  have hall : (if Int32.ofNat 1 < p_sum M (p_si M i) 2 then p_sum M (p_si M i) 2 else Int32.ofNat 1) = p_all M (p_si M i) := by
    unfold p_all
    by_cases h : p_sum M (p_si M i) 2 < 1
    · rw [if_pos h, if_neg (by rw [t_lt] at h ⊢; rw [show (1 : Int32).toInt = 1 from rfl] at h; rw [show (Int32.ofNat 1).toInt = 1 from rfl]; omega)]; rfl
    · rw [if_neg h]
      split
      · rfl
      · rename_i h2
        rw [t_lt] at h h2
        exact Int32.toInt.inj (by rw [show (1 : Int32).toInt = 1 from rfl] at h; rw [show (Int32.ofNat 1).toInt = 1 from rfl] at h2 ⊢; omega)
  have hne : ¬ (p_all M (p_si M i) = Int32.ofNat 0) := by
    unfold p_all
    split
    · decide
    · rename_i h; intro h0; rw [h0] at h; exact h (by decide)
  simp (disch := first | omega | (intro a hna; simp (disch := omega) only [q_up_fa])) only [r3_0, r3_1, r3_2, r3_5, r3_6, r3_9, r3_10, r3_11, r3_12, r3_13, r3_14, r3_15, r3_18, r3_19, r3_20, r3_21, r3_22, r3_23, r3_24, r3_27, r3_28, r3_29, r3_30, r3_31, r3_34, r3_37, r3_38, r3_39, r3_42, r3_43, r3_44, r3_45, r3_46, r3_49, r3_50, r3_51, r3_54, r3_55, r3_56, r3_57, r3_58, r3_61, r3_62, r3_63, r3_66, r3_67, r3_68, r3_69, r3_70, r3_73, r3_76, r3_77, r3_78, r3_81, r3_83, r3_84, r3_85, r3_86, r3_89, r3_92, r3_93, r3_94, r3_95, r3_98, r3_99, r3_100, r3_103, r3_106, r3_107, r3_108, r3_111, r3_112, r3_113, r3_116, r3_117, r3_118, r3_121, r3_122, r3_123, r3_124, r3_125, r3_128, r3_129, r3_130, r3_133, r3_136, r3_137, r3_138, r3_141, r3_142, r3_143, r3_146, r3_147, r3_148, r3_151, r3_152, r3_153, r3_154, hH, hS, hA, s_max, hall, hne, va_rf_some, va_rf_none, cat_int, cat_ref, cat_null, cat_jk, q_cs_nil, q_cs_int, q_cs_ref, q_cs_long, q_tl_some, q_tl_none, nz_0, nz_1, nzn_0, nzn_1, nz_b, true_and, and_true, Nat.reduceLeDiff, Nat.reduceAdd, l_0, l_1, l_2, l_3, l_4, l_5, l_6, l_7, l_8, l_9, l_10, l_11, l_12, l_13, l_14, l_15, l_16, l_17, l_18, l_19, l_20, l_24, l_32, l_40, l_41, l_42, l_43, l_45, l_48, l_57, l_59, l_60, l_61, l_63, l_64, l_80, l_96, l_97, l_99, l_100, l_122, l_160, l_200, l_320, l_640, l_999, l_1000, l_1200, l_4000, l_99999, l_100000, l_100001, l_100002, l_100006, l_100010, l_252645135, l_858993459, l_1431655765, n_cl, n_lt, n_le, n_eq, n_in, n_add, n_mul, n_sub, n_div, n_mod, n_addneg, n_negl, n_nege, Nat.add_sub_cancel, d_ltT, d_ltF, d_leT, d_leF, d_eqT, d_eqF, ↓reduceIte, Nat.reduceLeDiff, Nat.reduceAdd, Nat.reduceMul, Nat.reduceSub, Nat.reduceLT, Nat.zero_add, Nat.add_zero, not_false_eq_true, h32, ht32, hst32, kst, k0, k1, k2, k3, k4, k5, k6, k7, k8, k9, k10, k11, r0, r1, r2, r3, r4, r5, r6, r7, r8, r9, r10, r11, r12, r13, a1, a2, a3, a4, a5, kt, q_up_a, q_up_k, t3c, t3d]
  refine hQ _ ⟨?_, ?_, ?_, ?_⟩ ?_
  · intro a h
    simp (disch := omega) only [q_up_fa]
  · intro j hj
    simp (disch := omega) only [q_up_a, q_up_k]
  · simp (disch := omega) only [q_up_a, q_up_same]
  · intro j hj cc hcc
    obtain rfl : j = 0 := by omega
    have : cc = 0 ∨ cc = 1 ∨ cc = 2 ∨ cc = 3 ∨ cc = 4 ∨ cc = 5 ∨ cc = 6 := by omega
    rcases this with rfl | rfl | rfl | rfl | rfl | rfl | rfl <;> simp (disch := omega) only [q_up_a, q_up_same] <;> rfl
  · intro j hj
    have : j = 0 ∨ j = 1 ∨ j = 2 := by omega
    rcases this with rfl | rfl | rfl <;> simp (disch := omega) only [q_up_k, q_up_same] <;> rfl
