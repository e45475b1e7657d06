/-! the JDK's small methods -/
theorem s_max {d c : Nat} {h : q_H} {Q : Option Value → q_H → Prop} {x y : Int32} : q_wp (d + 1) c 10002 0 [.int x, .int y] [] h Q = Q (some (.int (if x < y then y else x))) h := by
  simp only [r10002_0, r10002_1, r10002_2, r10002_5, r10002_6, r10002_9, r10002_10, va_rf_some, va_rf_none, cat_int, cat_ref, cat_null, cat_jk, q_cs_nil, q_cs_int, q_cs_ref, q_cs_long, q_tl_some, q_tl_none, nz_0, nz_1, nzn_0, nzn_1, nz_b, true_and, and_true, Nat.reduceLeDiff, Nat.reduceAdd]
  split <;> rfl
theorem s_min {d c : Nat} {h : q_H} {Q : Option Value → q_H → Prop} {x y : Int32} : q_wp (d + 1) c 10003 0 [.int x, .int y] [] h Q = Q (some (.int (if y < x then y else x))) h := by
  simp only [r10003_0, r10003_1, r10003_2, r10003_5, r10003_6, r10003_9, r10003_10, va_rf_some, va_rf_none, cat_int, cat_ref, cat_null, cat_jk, q_cs_nil, q_cs_int, q_cs_ref, q_cs_long, q_tl_some, q_tl_none, nz_0, nz_1, nzn_0, nzn_1, nz_b, true_and, and_true, Nat.reduceLeDiff, Nat.reduceAdd]
  split <;> rfl
theorem s_abs {d c : Nat} {h : q_H} {Q : Option Value → q_H → Prop} {x : Int32} : q_wp (d + 1) c 10001 0 [.int x] [] h Q = Q (some (.int (if 0 ≤ x then x else -x))) h := by
  simp only [r10001_0, r10001_1, r10001_4, r10001_5, r10001_6, r10001_9, r10001_10, va_rf_some, va_rf_none, cat_int, cat_ref, cat_null, cat_jk, q_cs_nil, q_cs_int, q_cs_ref, q_cs_long, q_tl_some, q_tl_none, nz_0, nz_1, nzn_0, nzn_1, nz_b, true_and, and_true, Nat.reduceLeDiff, Nat.reduceAdd]
  split <;> rfl
def p_fm (x y : Int32) : Int32 := if 0 ≤ (x ^^^ y) then x % y else if x % y = 0 then x % y else x % y + y
theorem s_floorMod {d c : Nat} {h : q_H} {Q : Option Value → q_H → Prop} {x y : Int32} (hy : ¬ y = 0) : q_wp (d + 1) c 10000 0 [.int x, .int y, q_jk] [] h Q = Q (some (.int (p_fm x y))) h := by
  simp only [r10000_0, r10000_1, r10000_2, r10000_3, r10000_4, r10000_5, r10000_6, r10000_7, r10000_10, r10000_11, r10000_14, r10000_15, r10000_16, r10000_17, r10000_18, r10000_19, va_rf_some, va_rf_none, cat_int, cat_ref, cat_null, cat_jk, q_cs_nil, q_cs_int, q_cs_ref, q_cs_long, q_tl_some, q_tl_none, nz_0, nz_1, nzn_0, nzn_1, nz_b, true_and, and_true, Nat.reduceLeDiff, Nat.reduceAdd, hy, not_false_eq_true]
  unfold p_fm
  split
  · rfl
  · split <;> rfl
def p_bq (v lo hi : Int32) : Int32 := let w := (if v < hi then v else hi); if lo < w then w else lo
theorem s_bound0 {d c : Nat} {h : q_H} {Q : Option Value → q_H → Prop} {v lo hi : Int32} : q_wp (d + 2) c 6009 0 [.int v, .int lo, .int hi] [] h Q = Q (some (.int (p_bq v lo hi))) h := by
  simp only [r6009_0, r6009_1, r6009_2, r6009_3, r6009_6, r6009_9, s_max, s_min, va_rf_some, va_rf_none, cat_int, cat_ref, cat_null, cat_jk, q_cs_nil, q_cs_int, q_cs_ref, q_cs_long, q_tl_some, q_tl_none, nz_0, nz_1, nzn_0, nzn_1, nz_b, true_and, and_true, Nat.reduceLeDiff, Nat.reduceAdd]
  rfl
