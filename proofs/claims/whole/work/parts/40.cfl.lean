/-! a flight in the class -/
theorem p_sm_congr {f g : Nat → Int32} : ∀ k, (∀ p, p < k → f p = g p) → p_sm f k = p_sm g k
  | 0, _ => rfl
  | k + 1, h => by
    show p_sm f k + f k = p_sm g k + g k
    rw [p_sm_congr k fun p hp => h p (by omega), h k (by omega)]
theorem p_or_congr {f g : Nat → Int32} : ∀ k, (∀ p, p < k → f p = g p) → p_or f k = p_or g k
  | 0, _ => rfl
  | k + 1, h => by
    show (p_or f k ||| _) = (p_or g k ||| _)
    rw [p_or_congr k fun p hp => h p (by omega), h k (by omega)]
/-- the class's stick at a has the pieces of the model's stick s -/
def p_stk (I M : Nat → Nat → Int32) (a s : Nat) : Prop := I a 3 = M 137 s ∧ ∀ p, p < p_pc M s →
  I (a + 2) p = M 140 (6 * s + p) ∧ I (a + 3) p = M 141 (6 * s + p) ∧ I (a + 4) p = M 142 (6 * s + p) ∧ I (a + 5) p = M 138 (6 * s + p) ∧ I (a + 6) p = M 139 (6 * s + p)
/-- pieces within their bounds -/
def p_swf (M : Nat → Nat → Int32) (s : Nat) : Prop := p_nb (M 137 s) 6 ∧ ∀ p, p < p_pc M s → p_nb (M 138 (6 * s + p)) 3
theorem s_sumM {d c L n a s row t w : Nat} {Q : Option Value → q_H → Prop} {I M : Nat → Nat → Int32} {r : Nat → Nat → Option Nat} {dk : Nat → Nat × Nat} (ha : p_ska a) (hst : p_stk I M a s) (hw : p_swf M s) (hr : (row = 0 ∧ t = 1 ∧ w = 0) ∨ (row = 1 ∧ t = 1 ∧ w = 1) ∨ (row = 2 ∧ t = 0 ∧ w = 2) ∨ (row = 2 ∧ t = 2 ∧ w = 3)) :
    q_wp (d + 1) c 5002 0 [.ref a, .int (Int32.ofNat row), .int (Int32.ofNat t), q_jk, q_jk, q_jk, q_jk] [] (p_h L I r dk n) Q = Q (some (.int (p_sum M s w))) (p_h L I r dk n) := by
  obtain ⟨pc, h6, hpc⟩ := hw.1
  have e : p_pc M s = pc := by unfold p_pc; rw [hpc, n_cl (by omega)]
  rw [s_sum ha (by omega) (by omega) (hst.1.trans hpc) h6]
  refine congrArg (fun x => Q (some (.int x)) _) ?_
  have e1 : p_sum M s w = p_sm (p_tm M s w) pc := by unfold p_sum; rw [if_pos (by omega), e]
  rw [e1]
  refine p_sm_congr _ fun p hp => ?_
  obtain ⟨x1, x2, x3, x4, x5⟩ := hst.2 p (by omega)
  rcases hr with ⟨rfl, rfl, rfl⟩ | ⟨rfl, rfl, rfl⟩ | ⟨rfl, rfl, rfl⟩ | ⟨rfl, rfl, rfl⟩
  · show I (a + 2) p * I (a + 6) p = M 140 _ * M 139 _
    rw [x1, x5]
  · show I (a + 3) p * I (a + 6) p = M 141 _ * M 139 _
    rw [x2, x5]
  · show I (a + 4) p = M 142 _
    rw [x3]
  · show I (a + 4) p * I (a + 6) p * I (a + 6) p = M 142 _ * M 139 _ * M 139 _
    rw [x3, x5]
theorem s_armsM {d c L n a s : Nat} {Q : Option Value → q_H → Prop} {I M : Nat → Nat → Int32} {r : Nat → Nat → Option Nat} {dk : Nat → Nat × Nat} (ha : p_ska a) (hst : p_stk I M a s) (hw : p_swf M s) :
    q_wp (d + 2) c 5003 0 [.ref a, q_jk, q_jk] [] (p_h L I r dk n) Q = Q (some (.int (p_sum M s 4))) (p_h L I r dk n) := by
  obtain ⟨pc, h6, hpc⟩ := hw.1
  have e : p_pc M s = pc := by unfold p_pc; rw [hpc, n_cl (by omega)]
  rw [s_arms ha (hst.1.trans hpc) h6 fun p hp => by rw [show I (a + 2 + 3) p = _ from (hst.2 p (by omega)).2.2.2.1]; exact hw.2 p (by omega)]
  refine congrArg (fun x => Q (some (.int x)) _) ?_
  have e1 : p_sum M s 4 = p_bits (p_or (fun p => M 138 (6 * s + p)) pc) := by unfold p_sum; rw [if_neg (by omega), e]
  rw [e1]
  refine congrArg p_bits (p_or_congr _ fun p hp => ?_)
  exact (hst.2 p (by omega)).2.2.2.1
/-- a throw of the class is the model's throw i -/
def p_to (r : Nat → Nat → Option Nat) (dk : Nat → Nat × Nat) (I M : Nat → Nat → Int32) (i t : Nat) : Prop :=
  179 ≤ t ∧ dk t = (6, 0) ∧ I t 0 = M 143 i ∧ I t 2 = M 145 i ∧ I t 3 = M 146 i ∧ I t 4 = M 147 i ∧ I t 5 = M 148 i ∧ I t 6 = M 149 i ∧ I t 7 = (if M 143 i = 1 ∨ M 143 i = 3 ∨ M 143 i = 5 then 1 else 0) ∧ r t 1 = some (80 + 11 * p_si M i)
theorem p_bq_eq {v lo hi : Int32} (h : lo ≤ hi) : p_bq v lo hi = p_clp v lo hi := by
  unfold p_bq p_clp
  simp only []
  rw [t_le] at h
  repeat' split
  all_goals try simp only [t_lt] at *
  all_goals first
    | rfl
    | exact Int32.toInt.inj (by omega)
    | omega
theorem s_clp {d c : Nat} {h : q_H} {Q : Option Value → q_H → Prop} {v lo hi : Int32} (hl : lo ≤ hi) : q_wp (d + 2) c 6009 0 [.int v, .int lo, .int hi] [] h Q = Q (some (.int (p_clp v lo hi))) h := by
  rw [s_bound0, p_bq_eq hl]
theorem s_up {d c L n i k t : Nat} {Q : Option Value → q_H → Prop} {I M : Nat → Nat → Int32} {r : Nat → Nat → Option Nat} {dk : Nat → Nat × Nat} {S : Nat → Int32} {x : Int32} (ht : p_to r dk I M i t) (hx : x = p_says M i 0 S) (hk : k ≤ 40) :
    q_wp (d + 3) c 6004 0 [.ref t, .int x, .int (Int32.ofNat k), q_jk] [] (p_h L I r dk n) Q = Q (some (.int (p_up M i k S))) (p_h L I r dk n) := by
  obtain ⟨t1, t2, t3, -, -, -, -, t4, -⟩ := ht
  have kt : p_K L dk t = (6, 0) := (p_K_dyn t1).trans t2
  have h9 : -Int32.ofNat 9 ≤ Int32.ofNat 9 := by decide
  have h32 : 32 ≤ t := by omega
  simp (disch := first | omega | exact h9) only [r6004_0, r6004_1, r6004_3, r6004_5, r6004_8, r6004_9, r6004_10, r6004_13, r6004_14, r6004_17, r6004_18, r6004_19, r6004_22, r6004_23, r6004_24, r6004_27, r6004_28, r6004_29, r6004_30, r6004_33, r6004_34, r6004_35, r6004_36, r6004_37, r6004_38, r6004_41, r6004_42, r6004_45, r6004_46, r6004_47, r6004_50, r6004_53, r6004_54, s_clp, s_max, va_rf_some, va_rf_none, cat_int, cat_ref, cat_null, cat_jk, q_cs_nil, q_cs_int, q_cs_ref, q_cs_long, q_tl_some, q_tl_none, nz_0, nz_1, nzn_0, nzn_1, nz_b, true_and, and_true, Nat.reduceLeDiff, Nat.reduceAdd, l_0, l_1, l_2, l_3, l_4, l_5, l_6, l_7, l_8, l_9, l_10, l_11, l_12, l_13, l_14, l_15, l_16, l_17, l_18, l_19, l_20, l_24, l_32, l_40, l_41, l_42, l_43, l_45, l_48, l_57, l_59, l_60, l_61, l_63, l_64, l_80, l_96, l_97, l_99, l_100, l_122, l_160, l_200, l_320, l_640, l_999, l_1000, l_1200, l_4000, l_99999, l_100000, l_100001, l_100002, l_100006, l_100010, l_252645135, l_858993459, l_1431655765, n_cl, n_lt, n_le, n_eq, n_in, n_add, n_mul, n_sub, n_div, n_mod, n_addneg, n_negl, n_nege, Nat.add_sub_cancel, d_ltT, d_ltF, d_leT, d_leF, d_eqT, d_eqF, ↓reduceIte, Nat.reduceLeDiff, Nat.reduceAdd, Nat.reduceMul, Nat.reduceSub, Nat.reduceLT, Nat.zero_add, Nat.add_zero, not_false_eq_true, kt, h32, t3, t4, p_up, hx]
  by_cases h1 : M 143 i = Int32.ofNat 4
  · simp only [h1, ↓reduceIte]
    by_cases h2 : k < 5
    · simp only [h2, ↓reduceIte, Nat.not_le.2 h2]
    · simp only [h2, ↓reduceIte, Nat.not_lt.1 h2]
  · simp only [h1, ↓reduceIte]
    by_cases h2 : M 143 i = Int32.ofNat 5
    · simp only [h2, ↓reduceIte]
      refine congrArg (fun x => Q (some (.int x)) _) ?_
      by_cases h3 : -Int32.ofNat 1 < p_clp (p_says M i 0 S) (-Int32.ofNat 9) (Int32.ofNat 9)
      · rw [if_pos h3, if_neg (by rw [t_lt] at h3 ⊢; omega)]
      · rw [if_neg h3]
        split
        · rfl
        · rename_i h4; rw [t_lt] at h3 h4; exact Int32.toInt.inj (by omega)
    · simp only [h2, ↓reduceIte]
theorem s_turn {d c L n i t : Nat} {Q : Option Value → q_H → Prop} {I M : Nat → Nat → Int32} {r : Nat → Nat → Option Nat} {dk : Nat → Nat × Nat} {S : Nat → Int32} {x : Int32} (ht : p_to r dk I M i t) (hx : x = p_says M i 1 S) :
    q_wp (d + 3) c 6005 0 [.ref t, .int x, q_jk] [] (p_h L I r dk n) Q = Q (some (.int (p_turn M i S))) (p_h L I r dk n) := by
  obtain ⟨t1, t2, t3, -, -, -, -, t4, t5, -⟩ := ht
  have kt : p_K L dk t = (6, 0) := (p_K_dyn t1).trans t2
  have h9 : -Int32.ofNat 8 ≤ Int32.ofNat 8 := by decide
  have h32 : 32 ≤ t := by omega
  simp (disch := first | omega | exact h9) only [r6005_0, r6005_1, r6005_3, r6005_5, r6005_8, r6005_9, r6005_10, r6005_13, r6005_16, r6005_17, r6005_18, r6005_21, r6005_22, r6005_23, r6005_24, r6005_27, r6005_28, s_clp, s_max, va_rf_some, va_rf_none, cat_int, cat_ref, cat_null, cat_jk, q_cs_nil, q_cs_int, q_cs_ref, q_cs_long, q_tl_some, q_tl_none, nz_0, nz_1, nzn_0, nzn_1, nz_b, true_and, and_true, Nat.reduceLeDiff, Nat.reduceAdd, l_0, l_1, l_2, l_3, l_4, l_5, l_6, l_7, l_8, l_9, l_10, l_11, l_12, l_13, l_14, l_15, l_16, l_17, l_18, l_19, l_20, l_24, l_32, l_40, l_41, l_42, l_43, l_45, l_48, l_57, l_59, l_60, l_61, l_63, l_64, l_80, l_96, l_97, l_99, l_100, l_122, l_160, l_200, l_320, l_640, l_999, l_1000, l_1200, l_4000, l_99999, l_100000, l_100001, l_100002, l_100006, l_100010, l_252645135, l_858993459, l_1431655765, n_cl, n_lt, n_le, n_eq, n_in, n_add, n_mul, n_sub, n_div, n_mod, n_addneg, n_negl, n_nege, Nat.add_sub_cancel, d_ltT, d_ltF, d_leT, d_leF, d_eqT, d_eqF, ↓reduceIte, Nat.reduceLeDiff, Nat.reduceAdd, Nat.reduceMul, Nat.reduceSub, Nat.reduceLT, Nat.zero_add, Nat.add_zero, not_false_eq_true, kt, h32, t3, t4, t5, p_turn, hx, b_eq0, ite_not]
  split <;> rfl
theorem s_less {d c L n i k t : Nat} {Q : Option Value → q_H → Prop} {I M : Nat → Nat → Int32} {r : Nat → Nat → Option Nat} {dk : Nat → Nat × Nat} {S : Nat → Int32} {x : Int32} (ht : p_to r dk I M i t) (hx : x = p_says M i 2 S) (hk : k ≤ 40) :
    q_wp (d + 3) c 6006 0 [.ref t, .int x, .int (Int32.ofNat k), q_jk] [] (p_h L I r dk n) Q = Q (some (.int (p_less M i k S))) (p_h L I r dk n) := by
  obtain ⟨t1, t2, t3, -, -, -, -, t4, t5, -⟩ := ht
  have kt : p_K L dk t = (6, 0) := (p_K_dyn t1).trans t2
  have h9 : Int32.ofNat 0 ≤ Int32.ofNat 9 := by decide
  have h32 : 32 ≤ t := by omega
  simp (disch := first | omega | exact h9) only [r6006_0, r6006_1, r6006_2, r6006_4, r6006_7, r6006_8, r6006_9, r6006_12, r6006_13, r6006_16, r6006_17, r6006_18, r6006_21, r6006_24, r6006_25, r6006_26, r6006_27, r6006_30, r6006_31, s_clp, s_max, va_rf_some, va_rf_none, cat_int, cat_ref, cat_null, cat_jk, q_cs_nil, q_cs_int, q_cs_ref, q_cs_long, q_tl_some, q_tl_none, nz_0, nz_1, nzn_0, nzn_1, nz_b, true_and, and_true, Nat.reduceLeDiff, Nat.reduceAdd, l_0, l_1, l_2, l_3, l_4, l_5, l_6, l_7, l_8, l_9, l_10, l_11, l_12, l_13, l_14, l_15, l_16, l_17, l_18, l_19, l_20, l_24, l_32, l_40, l_41, l_42, l_43, l_45, l_48, l_57, l_59, l_60, l_61, l_63, l_64, l_80, l_96, l_97, l_99, l_100, l_122, l_160, l_200, l_320, l_640, l_999, l_1000, l_1200, l_4000, l_99999, l_100000, l_100001, l_100002, l_100006, l_100010, l_252645135, l_858993459, l_1431655765, n_cl, n_lt, n_le, n_eq, n_in, n_add, n_mul, n_sub, n_div, n_mod, n_addneg, n_negl, n_nege, Nat.add_sub_cancel, d_ltT, d_ltF, d_leT, d_leF, d_eqT, d_eqF, ↓reduceIte, Nat.reduceLeDiff, Nat.reduceAdd, Nat.reduceMul, Nat.reduceSub, Nat.reduceLT, Nat.zero_add, Nat.add_zero, not_false_eq_true, kt, h32, t3, t4, t5, p_less, hx]
  by_cases h1 : M 143 i = Int32.ofNat 2
  · simp only [h1, ↓reduceIte]
    by_cases h2 : M 149 i ≤ Int32.ofNat k
    · rw [if_neg (Int32.not_lt.2 h2), if_pos h2]
    · rw [if_pos (Int32.not_le.1 h2), if_neg h2]
  · simp only [h1, ↓reduceIte]
theorem s_isKind {d c L n k w : Nat} {Q : Option Value → q_H → Prop} {I : Nat → Nat → Int32} {r : Nat → Nat → Option Nat} {dk : Nat → Nat × Nat} (h0 : I 1 0 = -1) (h1 : I 1 1 = 0) (h2 : I 1 2 = 0) (h3 : I 1 3 = 1) (h4 : I 1 4 = 0) (h5 : I 1 5 = 3) (hk : k ≤ 5) (hw : w ≤ 5) :
    q_wp (d + 1) c 6002 0 [.int (Int32.ofNat k), .int (Int32.ofNat w), q_jk, q_jk] [] (p_h L I r dk n) Q = Q (some (.int (if w = 0 ∨ k = w ∨ (w = 1 ∧ (k = 3 ∨ k = 5)) ∨ (w = 3 ∧ k = 5) then 1 else 0))) (p_h L I r dk n) := by
  have a1 : k = 0 ∨ k = 1 ∨ k = 2 ∨ k = 3 ∨ k = 4 ∨ k = 5 := by omega
  have a2 : w = 0 ∨ w = 1 ∨ w = 2 ∨ w = 3 ∨ w = 4 ∨ w = 5 := by omega
  rcases a1 with rfl | rfl | rfl | rfl | rfl | rfl <;> rcases a2 with rfl | rfl | rfl | rfl | rfl | rfl <;>
    simp [r6002_0, r6002_1, r6002_2, r6002_3, r6002_4, r6002_5, r6002_8, r6002_9, r6002_12, r6002_13, r6002_16, r6002_17, r6002_20, r6002_21, r6002_24, r6002_25, r6002_26, r6002_29, r6002_30, r6002_31, r6002_34, r6002_35, r6002_36, r6002_37, r6002_40, r6002_43, r6002_44, va_rf_some, va_rf_none, cat_int, cat_ref, cat_null, cat_jk, q_cs_nil, q_cs_int, q_cs_ref, q_cs_long, q_tl_some, q_tl_none, nz_0, nz_1, nzn_0, nzn_1, nz_b, true_and, and_true, Nat.reduceLeDiff, Nat.reduceAdd, pK_1, h0, h1, h2, h3, h4, h5, p_in]
