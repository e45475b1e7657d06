/-! feed -/
def p_tz (M : Nat → Nat → Int32) : Nat := (M 135 22).toNatClampNeg
def p_fby (w : Int64) (k : Nat) : Int32 := ((w >>> ((Int32.ofNat (8 * k)).toInt64 &&& 63)) &&& 255).toInt32
def p_put (M : Nat → Nat → Int32) (v : Int32) : Nat → Nat → Int32 := q_up (q_up M 152 (p_tz M) v) 135 22 (Int32.ofNat (p_tz M + 1))
def p_fdm (w : Int64) : Nat → (Nat → Nat → Int32) → Nat → Nat → Int32
  | 0, M => M
  | k + 1, M => p_fdm w k (p_put M (p_fby w k))
def t_feed (M : Nat → Nat → Int32) (w : Int64) (x : Int32) : Nat → Nat → Int32 := if Int32.ofNat 1 ≤ x ∧ x ≤ Int32.ofNat 8 then (if p_tz M + x.toNatClampNeg ≤ 160 then p_fdm w x.toNatClampNeg M else M) else M
def a_feed (M : Nat → Nat → Int32) (x : Int32) : Int32 := if Int32.ofNat 1 ≤ x ∧ x ≤ Int32.ofNat 8 then (if p_tz M + x.toNatClampNeg ≤ 160 then Int32.ofNat (p_tz M + x.toNatClampNeg) else -4) else -2
theorem and255 (x : Int64) : p_nb (x &&& 255).toInt32 255 := by
  refine ⟨(x.toBitVec &&& 255#64).toNat, ?_, ?_⟩
  · rw [BitVec.toNat_and]
    exact Nat.and_le_right
  · apply Int32.toBitVec.inj
    show (x.toBitVec &&& 255#64).signExtend 32 = BitVec.ofNat 32 _
    rw [BitVec.signExtend_eq_setWidth_of_le _ (by decide)]
    rfl
theorem fby_nb (w : Int64) (k : Nat) : p_nb (p_fby w k) 255 := and255 _
theorem shr8 (x : BitVec 64) {s : Nat} (hs : s + 8 ≤ 64) : ((x.sshiftRight s &&& 255#64).signExtend 32).signExtend 8 = ((x >>> s).signExtend 32).signExtend 8 := by
  rw [BitVec.signExtend_eq_setWidth_of_le _ (by decide), BitVec.signExtend_eq_setWidth_of_le _ (by decide), BitVec.signExtend_eq_setWidth_of_le _ (by decide), BitVec.signExtend_eq_setWidth_of_le _ (by decide)]
  apply BitVec.eq_of_getLsbD_eq
  intro i hi
  have h255 : (255#64).getLsbD i = true := by
    have : ∀ i : Fin 8, (255#64).getLsbD i.1 = true := by decide
    exact this ⟨i, hi⟩
  simp only [BitVec.getLsbD_setWidth, BitVec.getLsbD_and, h255, BitVec.getLsbD_sshiftRight, BitVec.getLsbD_ushiftRight, Bool.and_true]
  rw [if_pos (by omega)]
  have h1 : decide (64 ≤ i) = false := decide_eq_false (by omega)
  rw [h1]
  simp
theorem fby_8 (w : Int64) {k : Nat} (hk : k < 8) : (p_fby w k).toInt8 = (w.toUInt64 >>> ((Int32.ofNat (8 * k)).toInt64.toUInt64 &&& Int64.toUInt64 63)).toInt64.toInt32.toInt8 := by
  have : k = 0 ∨ k = 1 ∨ k = 2 ∨ k = 3 ∨ k = 4 ∨ k = 5 ∨ k = 6 ∨ k = 7 := by omega
  apply Int8.toBitVec.inj
  rcases this with rfl | rfl | rfl | rfl | rfl | rfl | rfl | rfl
  · exact shr8 w.toBitVec (s := 0) (by decide)
  · exact shr8 w.toBitVec (s := 8) (by decide)
  · exact shr8 w.toBitVec (s := 16) (by decide)
  · exact shr8 w.toBitVec (s := 24) (by decide)
  · exact shr8 w.toBitVec (s := 32) (by decide)
  · exact shr8 w.toBitVec (s := 40) (by decide)
  · exact shr8 w.toBitVec (s := 48) (by decide)
  · exact shr8 w.toBitVec (s := 56) (by decide)
theorem p_tz_eq {M : Nat → Nat → Int32} (h : p_wf M) : M 135 22 = Int32.ofNat (p_tz M) ∧ p_tz M ≤ 160 := by
  obtain ⟨z, hz, e⟩ := h.2.2.2.2.2.1.1
  unfold p_tz
  rw [e, n_cl (by omega)]
  exact ⟨rfl, hz⟩
theorem tz_put {M : Nat → Nat → Int32} {v : Int32} (h : p_tz M < 160) : p_tz (p_put M v) = p_tz M + 1 := by
  show (q_up _ 135 22 (Int32.ofNat (p_tz M + 1)) 135 22).toNatClampNeg = _
  rw [q_up_same, n_cl (by omega)]
theorem put_o {M : Nat → Nat → Int32} {v : Int32} {a : Nat} (h1 : a ≠ 135) (h2 : a ≠ 152) : p_put M v a = M a := by
  unfold p_put
  rw [q_up_fa h1, q_up_fa h2]
theorem put_5 {M : Nat → Nat → Int32} {v : Int32} {j : Nat} (h : j ≠ 22) : p_put M v 135 j = M 135 j := by
  unfold p_put
  rw [q_up_k h, q_up_fa (by decide)]
section
variable {d c L n : Nat} {Q : Option Value → q_H → Prop} {I M : Nat → Nat → Int32} {r : Nat → Nat → Option Nat} {dk : Nat → Nat × Nat}
theorem wf_put (hW : p_wf M) {v : Int32} (hv : p_nb v 255) (hz : p_tz M < 160) : p_wf (p_put M v) := by
  have esn : p_sn (p_put M v) = p_sn M := by unfold p_sn; rw [put_5 (by decide)]
  refine ⟨by rw [put_5 (by decide)]; exact hW.1, w2 hW (fun a ha => put_o (by omega) (by omega)), w3 hW (put_5 (by decide)) (put_5 (by decide)), w4 hW (fun a ha => put_o (by omega) (by omega)) (put_5 (by decide)) (by omega), by rw [put_5 (by decide)]; exact hW.2.2.2.2.1, ⟨⟨p_tz M + 1, by omega, q_up_same⟩, fun k hk => ?_⟩, w7 hW (fun a ha => put_o (by omega) (by omega)) (put_5 (by decide)) (put_5 (by decide)) (put_5 (by decide)), w8 hW (fun a ha => put_o (by omega) (by omega)) (put_5 (by decide)) (put_5 (by decide)) (put_5 (by decide)) (put_5 (by decide)), w9 hW (fun a ha => put_o (by omega) (by omega)), w10 hW (put_o (by decide) (by decide))⟩
  unfold p_put
  rw [q_up_fa (by decide)]
  by_cases e : k = p_tz M
  · rw [e, q_up_same]; exact hv
  · rw [q_up_k e]; exact hW.2.2.2.2.2.1.2 k hk
theorem CR_put (hW : p_wf M) (hC : p_CR L r dk n I M) {v v8 : Int32} (hv : v8 = v.toInt8.toInt32) (hz : p_tz M < 160) : p_CR L r dk n (q_up (q_up I 42 1 (Int32.ofNat (p_tz M + 1))) 43 (p_tz M) v8) (p_put M v) := by
  have hI : ∀ a, a ≠ 42 → a ≠ 43 → q_up (q_up I 42 1 (Int32.ofNat (p_tz M + 1))) 43 (p_tz M) v8 a = I a := fun a a0 a1 => by rw [q_up_fa a1, q_up_fa a0]
  refine ⟨k1 hC (hI 32 (by decide) (by decide)) (fun j _ => ?_), k2 hC (fun a ha => hI a (by omega) (by omega)) (fun a ha => put_o (by omega) (by omega)), k3 hC (fun a ha => hI a (by omega) (by omega)) (fun a ha => put_o (by omega) (by omega)) (put_5 (by decide)), k4 hC (fun a ha => hI a (by omega) (by omega)) (fun a ha => put_o (by omega) (by omega)) (put_5 (by decide)), k5 hC (fun a ha => hI a (by omega) (by omega)) (fun a ha => put_o (by omega) (by omega)), k6 hC (fun a ha => hI a (by omega) (by omega)) (fun a ha => put_o (by omega) (by omega)) (put_5 (by decide)) (put_5 (by decide)), ?_, k8 hC (fun a ha => hI a (by omega) (by omega)) (put_o (by decide) (by decide)), hC.2.2.2.2.2.2.2.2⟩
  · by_cases h22 : j = 22
    · exact .inr (.inl h22)
    · exact .inr (.inr (.inr (put_5 h22)))
  have e22 : p_put M v 135 22 = Int32.ofNat (p_tz M + 1) := q_up_same
  rw [e22, n_cl (by omega)]
  refine ⟨by rw [q_up_fa (by decide), q_up_same], fun k hk => ?_⟩
  unfold p_put
  rw [q_up_fa (show 152 ≠ 135 by decide)]
  by_cases e : k = p_tz M
  · rw [e, q_up_same, q_up_same]; exact hv
  · rw [q_up_k e, q_up_k e, q_up_fa (by decide)]
    have g := hC.2.2.2.2.2.2.1.2 k
    rw [(p_tz_eq hW).1, n_cl (by have := (p_tz_eq hW).2; omega)] at g
    exact g (by omega)
theorem MR_put (hM : p_MR I M) {v : Int32} : p_MR (q_up (q_up I 152 (p_tz M) v) 135 22 (Int32.ofNat (p_tz M + 1))) (p_put M v) := by
  unfold p_put
  refine ⟨fun a a1 a2 => ?_, fun k hk => ?_⟩
  · rw [q_up_fa (show a ≠ 135 by omega), q_up_fa (show a ≠ 135 by omega)]
    by_cases b : a = 152
    · subst b
      funext j
      by_cases e : j = p_tz M
      · rw [e, q_up_same, q_up_same]
      · rw [q_up_k e, q_up_k e, hM.1 152 (by decide) (by decide)]
    · rw [q_up_fa b, q_up_fa b, hM.1 a a1 a2]
  · by_cases e : k = 22
    · rw [e, q_up_same, q_up_same]
    · rw [q_up_k e, q_up_k e, q_up_fa (by decide), q_up_fa (by decide)]
      exact hM.2 k hk
theorem wf_fdm {w : Int64} : ∀ (m : Nat) (M : Nat → Nat → Int32), p_wf M → p_tz M + m ≤ 160 → p_wf (p_fdm w m M)
  | 0, _, h, _ => h
  | m + 1, M, h, hz => wf_fdm m _ (wf_put h (fby_nb w m) (by omega)) (by rw [tz_put (by omega)]; omega)
theorem wf_feed (hW : p_wf M) {w : Int64} {x : Int32} : p_wf (t_feed M w x) := by
  unfold t_feed
  split
  · split
    · rename_i h
      exact wf_fdm _ _ hW h
    · exact hW
  · exact hW
theorem s_feed_loop {w : Int64} {x : Value} {I0 : Nat → Nat → Int32} {z : Nat} : ∀ (m : Nat) (I M : Nat → Nat → Int32), m ≤ 8 → p_wf M → p_CR L r dk n I M → p_cc I0 I → p_tz M + m = z → z ≤ 160 →
      (∀ I', p_cc I0 I' → p_CR L r dk n I' (p_fdm w m M) → Q (some (.int (Int32.ofNat z))) (p_h L I' r dk n)) →
      q_wp (d + 2) c 7010 36 [.ref 32, .long w, q_jk, x, .int (Int32.ofNat m + -Int32.ofNat 1)] [] (p_h L I r dk n) Q
  | 0, I, M, h8, hW, hC, hcc, hz, h160, hQ => by
    have hl : (Int32.ofNat 0 + -Int32.ofNat 1 < Int32.ofNat 0) = True := eq_true (by decide)
    have e1 : I 42 1 = Int32.ofNat z := by rw [hC.2.2.2.2.2.2.1.1, (p_tz_eq hW).1]; congr 1
    rw [r7010_36]
    simp (disch := omega) only [r7010_38, r7010_63, r7010_64, r7010_67, r7010_70, hl, e1, va_rf_some, va_rf_none, cat_int, cat_ref, cat_null, cat_jk, q_cs_nil, q_cs_int, q_cs_ref, q_cs_long, q_tl_some, q_tl_none, nz_0, nz_1, nzn_0, nzn_1, nz_b, true_and, and_true, Nat.reduceLeDiff, Nat.reduceAdd, l_0, l_1, l_2, l_3, l_4, l_5, l_6, l_7, l_8, l_9, l_10, l_11, l_12, l_13, l_14, l_15, l_16, l_17, l_18, l_19, l_20, l_24, l_32, l_40, l_41, l_42, l_43, l_45, l_48, l_57, l_59, l_60, l_61, l_63, l_64, l_80, l_96, l_97, l_99, l_100, l_122, l_160, l_200, l_320, l_640, l_999, l_1000, l_1200, l_4000, l_99999, l_100000, l_100001, l_100002, l_100006, l_100010, l_252645135, l_858993459, l_1431655765, n_cl, n_lt, n_le, n_eq, n_in, n_add, n_mul, n_sub, n_div, n_mod, n_addneg, n_negl, n_nege, Nat.add_sub_cancel, d_ltT, d_ltF, d_leT, d_leF, d_eqT, d_eqF, ↓reduceIte, Nat.reduceLeDiff, Nat.reduceAdd, Nat.reduceMul, Nat.reduceSub, Nat.reduceLT, Nat.zero_add, Nat.add_zero, not_false_eq_true, pK_32, pK_33, pK_34, pK_35, pK_36, pK_37, pK_38, pK_39, pK_40, pK_41, pK_42, pK_43, pK_44, pR_32_0, pR_32_1, pR_32_2, pR_32_3, pR_32_4, pR_32_5, pR_32_6, pR_32_7, pR_32_8, pR_33_0, pR_33_1, pR_33_2, pR_33_3, pR_36_0, pR_36_1, pR_36_2, pR_36_3, pR_37_0, pR_37_1, pR_37_3, pR_37_4, pR_42_0, pR_42_3, pK_124, pK_125, pK_126, pK_127, pK_128, pK_129, pK_130, pK_131, pK_132, pK_133, pK_134, pR_124_0, pR_126_0, pR_128_0, pR_130_0, pR_134_0, pR_134_1]
    exact hQ I hcc hC
  | m + 1, I, M, h8, hW, hC, hcc, hz, h160, hQ => by
    have e1 : I 42 1 = Int32.ofNat (p_tz M) := by rw [hC.2.2.2.2.2.2.1.1, (p_tz_eq hW).1]
    rw [r7010_36]
    simp (disch := omega) only [r7010_38, r7010_41, r7010_42, r7010_45, r7010_46, r7010_48, r7010_50, r7010_51, r7010_52, r7010_53, r7010_54, r7010_57, r7010_60, r3001_0, r3001_1, r3001_4, r3001_7, r3001_10, r3001_11, r3001_14, r3001_15, r3001_16, r3001_19, r3001_20, r3001_21, r3001_22, r3001_25, r3001_26, r3001_27, e1, q_up_fa, va_rf_some, va_rf_none, cat_int, cat_ref, cat_null, cat_jk, q_cs_nil, q_cs_int, q_cs_ref, q_cs_long, q_tl_some, q_tl_none, nz_0, nz_1, nzn_0, nzn_1, nz_b, true_and, and_true, Nat.reduceLeDiff, Nat.reduceAdd, l_0, l_1, l_2, l_3, l_4, l_5, l_6, l_7, l_8, l_9, l_10, l_11, l_12, l_13, l_14, l_15, l_16, l_17, l_18, l_19, l_20, l_24, l_32, l_40, l_41, l_42, l_43, l_45, l_48, l_57, l_59, l_60, l_61, l_63, l_64, l_80, l_96, l_97, l_99, l_100, l_122, l_160, l_200, l_320, l_640, l_999, l_1000, l_1200, l_4000, l_99999, l_100000, l_100001, l_100002, l_100006, l_100010, l_252645135, l_858993459, l_1431655765, n_cl, n_lt, n_le, n_eq, n_in, n_add, n_mul, n_sub, n_div, n_mod, n_addneg, n_negl, n_nege, Nat.add_sub_cancel, d_ltT, d_ltF, d_leT, d_leF, d_eqT, d_eqF, ↓reduceIte, Nat.reduceLeDiff, Nat.reduceAdd, Nat.reduceMul, Nat.reduceSub, Nat.reduceLT, Nat.zero_add, Nat.add_zero, not_false_eq_true, pK_32, pK_33, pK_34, pK_35, pK_36, pK_37, pK_38, pK_39, pK_40, pK_41, pK_42, pK_43, pK_44, pR_32_0, pR_32_1, pR_32_2, pR_32_3, pR_32_4, pR_32_5, pR_32_6, pR_32_7, pR_32_8, pR_33_0, pR_33_1, pR_33_2, pR_33_3, pR_36_0, pR_36_1, pR_36_2, pR_36_3, pR_37_0, pR_37_1, pR_37_3, pR_37_4, pR_42_0, pR_42_3, pK_124, pK_125, pK_126, pK_127, pK_128, pK_129, pK_130, pK_131, pK_132, pK_133, pK_134, pR_124_0, pR_126_0, pR_128_0, pR_130_0, pR_134_0, pR_134_1]
    refine s_feed_loop m _ (p_put M (p_fby w m)) (by omega) (wf_put hW (fby_nb w m) (by omega)) (CR_put hW hC ?_ (by omega)) (fun a ha => by rw [q_up_fa (by omega), q_up_fa (by omega)]; exact hcc a ha) (by rw [tz_put (by omega)]; omega) h160 hQ
    rw [fby_8 w (show m < 8 by omega), Int8.toInt8_toInt32]
theorem c_feed (hW : p_wf M) (hC : p_CR L r dk n I M) {w : Int64} {x : Int32} (hQ : ∀ I', p_cc I I' → p_CR L r dk n I' (t_feed M w x) → Q (some (.int (a_feed M x))) (p_h L I' r dk n)) :
    q_wp (d + 9) c 7010 0 [.ref 32, .long w, q_jk, .int x, q_jk] [] (p_h L I r dk n) Q := by
  unfold t_feed a_feed at hQ
  have e1 : I 42 1 = Int32.ofNat (p_tz M) := by rw [hC.2.2.2.2.2.2.1.1, (p_tz_eq hW).1]
  have h160 := (p_tz_eq hW).2
  by_cases hx : Int32.ofNat 1 ≤ x ∧ x ≤ Int32.ofNat 8
  · simp only [if_pos hx] at hQ
    have h0 : Int32.ofNat 0 ≤ x := Int32.le_trans (by decide) hx.1
    obtain ⟨m, hm, rfl⟩ := x_rng (by omega) ⟨h0, hx.2⟩
    have hm1 : 1 ≤ m := by have := hx.1; rw [n_le (by omega) (by omega)] at this; exact this
    rw [n_cl (by omega)] at hQ
    by_cases hz : p_tz M + m ≤ 160
    · simp only [if_pos hz] at hQ
      simp (disch := omega) only [r7010_0, r7010_1, r7010_2, r7010_4, r7010_7, r7010_10, r7010_12, r7010_13, r7010_14, r7010_17, r7010_20, r7010_21, r7010_22, r7010_25, r7010_31, r7010_32, r7010_33, r7010_34, s_within, hx, e1, b_eq0, b_eq1, b_0eq, ite_not, not_true_eq_false, not_false_eq_true, ↓reduceIte, va_rf_some, va_rf_none, cat_int, cat_ref, cat_null, cat_jk, q_cs_nil, q_cs_int, q_cs_ref, q_cs_long, q_tl_some, q_tl_none, nz_0, nz_1, nzn_0, nzn_1, nz_b, true_and, and_true, Nat.reduceLeDiff, Nat.reduceAdd, l_0, l_1, l_2, l_3, l_4, l_5, l_6, l_7, l_8, l_9, l_10, l_11, l_12, l_13, l_14, l_15, l_16, l_17, l_18, l_19, l_20, l_24, l_32, l_40, l_41, l_42, l_43, l_45, l_48, l_57, l_59, l_60, l_61, l_63, l_64, l_80, l_96, l_97, l_99, l_100, l_122, l_160, l_200, l_320, l_640, l_999, l_1000, l_1200, l_4000, l_99999, l_100000, l_100001, l_100002, l_100006, l_100010, l_252645135, l_858993459, l_1431655765, n_cl, n_lt, n_le, n_eq, n_in, n_add, n_mul, n_sub, n_div, n_mod, n_addneg, n_negl, n_nege, Nat.add_sub_cancel, d_ltT, d_ltF, d_leT, d_leF, d_eqT, d_eqF, ↓reduceIte, Nat.reduceLeDiff, Nat.reduceAdd, Nat.reduceMul, Nat.reduceSub, Nat.reduceLT, Nat.zero_add, Nat.add_zero, not_false_eq_true, pK_32, pK_33, pK_34, pK_35, pK_36, pK_37, pK_38, pK_39, pK_40, pK_41, pK_42, pK_43, pK_44, pR_32_0, pR_32_1, pR_32_2, pR_32_3, pR_32_4, pR_32_5, pR_32_6, pR_32_7, pR_32_8, pR_33_0, pR_33_1, pR_33_2, pR_33_3, pR_36_0, pR_36_1, pR_36_2, pR_36_3, pR_37_0, pR_37_1, pR_37_3, pR_37_4, pR_42_0, pR_42_3, pK_124, pK_125, pK_126, pK_127, pK_128, pK_129, pK_130, pK_131, pK_132, pK_133, pK_134, pR_124_0, pR_126_0, pR_128_0, pR_130_0, pR_134_0, pR_134_1, and_self]
      rw [show Int32.ofNat (m - 1) = Int32.ofNat m + -Int32.ofNat 1 from (n_addneg hm1).symm]
      exact s_feed_loop m I M (by omega) hW hC (fun _ _ => rfl) rfl hz hQ
    · simp only [if_neg hz] at hQ
      simp (disch := omega) only [r7010_0, r7010_1, r7010_2, r7010_4, r7010_7, r7010_10, r7010_12, r7010_13, r7010_14, r7010_17, r7010_20, r7010_21, r7010_22, r7010_25, r7010_28, r7010_30, s_within, hx, e1, b_eq0, b_eq1, b_0eq, ite_not, not_true_eq_false, not_false_eq_true, ↓reduceIte, va_rf_some, va_rf_none, cat_int, cat_ref, cat_null, cat_jk, q_cs_nil, q_cs_int, q_cs_ref, q_cs_long, q_tl_some, q_tl_none, nz_0, nz_1, nzn_0, nzn_1, nz_b, true_and, and_true, Nat.reduceLeDiff, Nat.reduceAdd, l_0, l_1, l_2, l_3, l_4, l_5, l_6, l_7, l_8, l_9, l_10, l_11, l_12, l_13, l_14, l_15, l_16, l_17, l_18, l_19, l_20, l_24, l_32, l_40, l_41, l_42, l_43, l_45, l_48, l_57, l_59, l_60, l_61, l_63, l_64, l_80, l_96, l_97, l_99, l_100, l_122, l_160, l_200, l_320, l_640, l_999, l_1000, l_1200, l_4000, l_99999, l_100000, l_100001, l_100002, l_100006, l_100010, l_252645135, l_858993459, l_1431655765, n_cl, n_lt, n_le, n_eq, n_in, n_add, n_mul, n_sub, n_div, n_mod, n_addneg, n_negl, n_nege, Nat.add_sub_cancel, d_ltT, d_ltF, d_leT, d_leF, d_eqT, d_eqF, ↓reduceIte, Nat.reduceLeDiff, Nat.reduceAdd, Nat.reduceMul, Nat.reduceSub, Nat.reduceLT, Nat.zero_add, Nat.add_zero, not_false_eq_true, pK_32, pK_33, pK_34, pK_35, pK_36, pK_37, pK_38, pK_39, pK_40, pK_41, pK_42, pK_43, pK_44, pR_32_0, pR_32_1, pR_32_2, pR_32_3, pR_32_4, pR_32_5, pR_32_6, pR_32_7, pR_32_8, pR_33_0, pR_33_1, pR_33_2, pR_33_3, pR_36_0, pR_36_1, pR_36_2, pR_36_3, pR_37_0, pR_37_1, pR_37_3, pR_37_4, pR_42_0, pR_42_3, pK_124, pK_125, pK_126, pK_127, pK_128, pK_129, pK_130, pK_131, pK_132, pK_133, pK_134, pR_124_0, pR_126_0, pR_128_0, pR_130_0, pR_134_0, pR_134_1, and_self]
      exact hQ I (fun _ _ => rfl) hC
  · simp only [if_neg hx] at hQ
    simp (disch := omega) only [r7010_0, r7010_1, r7010_2, r7010_4, r7010_7, r7010_10, r7010_12, s_within, hx, b_eq0, b_eq1, b_0eq, ite_not, not_true_eq_false, not_false_eq_true, ↓reduceIte, va_rf_some, va_rf_none, cat_int, cat_ref, cat_null, cat_jk, q_cs_nil, q_cs_int, q_cs_ref, q_cs_long, q_tl_some, q_tl_none, nz_0, nz_1, nzn_0, nzn_1, nz_b, true_and, and_true, Nat.reduceLeDiff, Nat.reduceAdd, l_0, l_1, l_2, l_3, l_4, l_5, l_6, l_7, l_8, l_9, l_10, l_11, l_12, l_13, l_14, l_15, l_16, l_17, l_18, l_19, l_20, l_24, l_32, l_40, l_41, l_42, l_43, l_45, l_48, l_57, l_59, l_60, l_61, l_63, l_64, l_80, l_96, l_97, l_99, l_100, l_122, l_160, l_200, l_320, l_640, l_999, l_1000, l_1200, l_4000, l_99999, l_100000, l_100001, l_100002, l_100006, l_100010, l_252645135, l_858993459, l_1431655765, n_cl, n_lt, n_le, n_eq, n_in, n_add, n_mul, n_sub, n_div, n_mod, n_addneg, n_negl, n_nege, Nat.add_sub_cancel, d_ltT, d_ltF, d_leT, d_leF, d_eqT, d_eqF, ↓reduceIte, Nat.reduceLeDiff, Nat.reduceAdd, Nat.reduceMul, Nat.reduceSub, Nat.reduceLT, Nat.zero_add, Nat.add_zero, not_false_eq_true, pK_32, pK_33, pK_34, pK_35, pK_36, pK_37, pK_38, pK_39, pK_40, pK_41, pK_42, pK_43, pK_44, pR_32_0, pR_32_1, pR_32_2, pR_32_3, pR_32_4, pR_32_5, pR_32_6, pR_32_7, pR_32_8, pR_33_0, pR_33_1, pR_33_2, pR_33_3, pR_36_0, pR_36_1, pR_36_2, pR_36_3, pR_37_0, pR_37_1, pR_37_3, pR_37_4, pR_42_0, pR_42_3, pK_124, pK_125, pK_126, pK_127, pK_128, pK_129, pK_130, pK_131, pK_132, pK_133, pK_134, pR_124_0, pR_126_0, pR_128_0, pR_130_0, pR_134_0, pR_134_1]
    exact hQ I (fun _ _ => rfl) hC
theorem m_feed_loop {w : Int64} {x : Value} {I0 : Nat → Nat → Int32} {z : Nat} : ∀ (m : Nat) (I M : Nat → Nat → Int32), m ≤ 8 → p_wf M → p_MR I M → p_mc I0 I → p_tz M + m = z → z ≤ 160 →
      (∀ I', p_mc I0 I' → p_MR I' (p_fdm w m M) → Q (some (.int (Int32.ofNat z))) (p_h L I' r dk n)) →
      q_wp (d + 2) c 8017 33 [.ref 135, .long w, q_jk, x, .int (Int32.ofNat m + -Int32.ofNat 1)] [] (p_h L I r dk n) Q
  | 0, I, M, h8, hW, hM, hcc, hz, h160, hQ => by
    have hl : (Int32.ofNat 0 + -Int32.ofNat 1 < Int32.ofNat 0) = True := eq_true (by decide)
    have e1 : I 135 22 = Int32.ofNat z := by rw [hM.2 22 (by decide), (p_tz_eq hW).1]; congr 1
    rw [r8017_33]
    simp (disch := omega) only [r8017_35, r8017_75, r8017_76, r8017_79, hl, e1, va_rf_some, va_rf_none, cat_int, cat_ref, cat_null, cat_jk, q_cs_nil, q_cs_int, q_cs_ref, q_cs_long, q_tl_some, q_tl_none, nz_0, nz_1, nzn_0, nzn_1, nz_b, true_and, and_true, Nat.reduceLeDiff, Nat.reduceAdd, l_0, l_1, l_2, l_3, l_4, l_5, l_6, l_7, l_8, l_9, l_10, l_11, l_12, l_13, l_14, l_15, l_16, l_17, l_18, l_19, l_20, l_24, l_32, l_40, l_41, l_42, l_43, l_45, l_48, l_57, l_59, l_60, l_61, l_63, l_64, l_80, l_96, l_97, l_99, l_100, l_122, l_160, l_200, l_320, l_640, l_999, l_1000, l_1200, l_4000, l_99999, l_100000, l_100001, l_100002, l_100006, l_100010, l_252645135, l_858993459, l_1431655765, n_cl, n_lt, n_le, n_eq, n_in, n_add, n_mul, n_sub, n_div, n_mod, n_addneg, n_negl, n_nege, Nat.add_sub_cancel, d_ltT, d_ltF, d_leT, d_leF, d_eqT, d_eqF, ↓reduceIte, Nat.reduceLeDiff, Nat.reduceAdd, Nat.reduceMul, Nat.reduceSub, Nat.reduceLT, Nat.zero_add, Nat.add_zero, not_false_eq_true, pK_135, pK_136, pK_137, pK_138, pK_139, pK_140, pK_141, pK_142, pK_143, pK_144, pK_145, pK_146, pK_147, pK_148, pK_149, pK_150, pK_151, pK_152, pK_153, pK_154, pK_155, pK_156, pK_157, pK_158, pK_159, pK_160, pK_161, pK_162, pK_163, pK_164, pK_165, pK_166, pK_167, pK_168, pK_169, pK_170, pK_171, pK_172, pK_173, pK_174, pK_175, pK_176, pK_177, pK_178, pR_135_0, pR_135_2, pR_135_3, pR_135_4, pR_135_5, pR_135_6, pR_135_7, pR_135_11, pR_135_12, pR_135_13, pR_135_14, pR_135_15, pR_135_16, pR_135_17, pR_135_19, pR_135_20, pR_135_21, pR_135_23, pR_135_24, pR_135_33, pR_135_34, pR_135_35, pR_135_36, pR_135_37, pR_135_38, pR_135_39, pR_135_40, pR_135_41, pR_135_46, pR_135_47, pR_135_51, pR_135_52, pR_135_53, pR_135_54, pR_135_55, pR_135_56, pR_135_57, pR_135_58, pR_135_59, pR_135_61, pR_135_62, pR_135_63, pR_135_64]
    exact hQ I hcc hM
  | m + 1, I, M, h8, hW, hM, hcc, hz, h160, hQ => by
    have e1 : I 135 22 = Int32.ofNat (p_tz M) := by rw [hM.2 22 (by decide), (p_tz_eq hW).1]
    rw [r8017_33]
    simp (disch := omega) only [r8017_35, r8017_38, r8017_39, r8017_42, r8017_43, r8017_46, r8017_47, r8017_49, r8017_51, r8017_52, r8017_53, r8017_56, r8017_57, r8017_58, r8017_59, r8017_60, r8017_61, r8017_64, r8017_65, r8017_66, r8017_69, r8017_72, e1, q_up_a, va_rf_some, va_rf_none, cat_int, cat_ref, cat_null, cat_jk, q_cs_nil, q_cs_int, q_cs_ref, q_cs_long, q_tl_some, q_tl_none, nz_0, nz_1, nzn_0, nzn_1, nz_b, true_and, and_true, Nat.reduceLeDiff, Nat.reduceAdd, l_0, l_1, l_2, l_3, l_4, l_5, l_6, l_7, l_8, l_9, l_10, l_11, l_12, l_13, l_14, l_15, l_16, l_17, l_18, l_19, l_20, l_24, l_32, l_40, l_41, l_42, l_43, l_45, l_48, l_57, l_59, l_60, l_61, l_63, l_64, l_80, l_96, l_97, l_99, l_100, l_122, l_160, l_200, l_320, l_640, l_999, l_1000, l_1200, l_4000, l_99999, l_100000, l_100001, l_100002, l_100006, l_100010, l_252645135, l_858993459, l_1431655765, n_cl, n_lt, n_le, n_eq, n_in, n_add, n_mul, n_sub, n_div, n_mod, n_addneg, n_negl, n_nege, Nat.add_sub_cancel, d_ltT, d_ltF, d_leT, d_leF, d_eqT, d_eqF, ↓reduceIte, Nat.reduceLeDiff, Nat.reduceAdd, Nat.reduceMul, Nat.reduceSub, Nat.reduceLT, Nat.zero_add, Nat.add_zero, not_false_eq_true, pK_135, pK_136, pK_137, pK_138, pK_139, pK_140, pK_141, pK_142, pK_143, pK_144, pK_145, pK_146, pK_147, pK_148, pK_149, pK_150, pK_151, pK_152, pK_153, pK_154, pK_155, pK_156, pK_157, pK_158, pK_159, pK_160, pK_161, pK_162, pK_163, pK_164, pK_165, pK_166, pK_167, pK_168, pK_169, pK_170, pK_171, pK_172, pK_173, pK_174, pK_175, pK_176, pK_177, pK_178, pR_135_0, pR_135_2, pR_135_3, pR_135_4, pR_135_5, pR_135_6, pR_135_7, pR_135_11, pR_135_12, pR_135_13, pR_135_14, pR_135_15, pR_135_16, pR_135_17, pR_135_19, pR_135_20, pR_135_21, pR_135_23, pR_135_24, pR_135_33, pR_135_34, pR_135_35, pR_135_36, pR_135_37, pR_135_38, pR_135_39, pR_135_40, pR_135_41, pR_135_46, pR_135_47, pR_135_51, pR_135_52, pR_135_53, pR_135_54, pR_135_55, pR_135_56, pR_135_57, pR_135_58, pR_135_59, pR_135_61, pR_135_62, pR_135_63, pR_135_64]
    exact m_feed_loop m _ (p_put M (p_fby w m)) (by omega) (wf_put hW (fby_nb w m) (by omega)) (MR_put hM) (fun a ha => by rw [q_up_fa (by omega), q_up_fa (by omega)]; exact hcc a ha) (by rw [tz_put (by omega)]; omega) h160 hQ
theorem m_feed (hW : p_wf M) (hM : p_MR I M) {w : Int64} {x : Int32} (hQ : ∀ I', p_mc I I' → p_MR I' (t_feed M w x) → Q (some (.int (a_feed M x))) (p_h L I' r dk n)) :
    q_wp (d + 9) c 8017 0 [.ref 135, .long w, q_jk, .int x, q_jk] [] (p_h L I r dk n) Q := by
  unfold t_feed a_feed at hQ
  have e1 : I 135 22 = Int32.ofNat (p_tz M) := by rw [hM.2 22 (by decide), (p_tz_eq hW).1]
  have h160 := (p_tz_eq hW).2
  by_cases hx : Int32.ofNat 1 ≤ x ∧ x ≤ Int32.ofNat 8
  · simp only [if_pos hx] at hQ
    have h0 : Int32.ofNat 0 ≤ x := Int32.le_trans (by decide) hx.1
    obtain ⟨m, hm, rfl⟩ := x_rng (by omega) ⟨h0, hx.2⟩
    have hm1 : 1 ≤ m := by have := hx.1; rw [n_le (by omega) (by omega)] at this; exact this
    rw [n_cl (by omega)] at hQ
    by_cases hz : p_tz M + m ≤ 160
    · simp only [if_pos hz] at hQ
      simp (disch := omega) only [r8017_0, r8017_1, r8017_2, r8017_4, r8017_7, r8017_10, r8017_12, r8017_13, r8017_14, r8017_17, r8017_18, r8017_19, r8017_22, r8017_28, r8017_29, r8017_30, r8017_31, m_in, hx, e1, b_eq0, b_eq1, b_0eq, ite_not, not_true_eq_false, not_false_eq_true, ↓reduceIte, va_rf_some, va_rf_none, cat_int, cat_ref, cat_null, cat_jk, q_cs_nil, q_cs_int, q_cs_ref, q_cs_long, q_tl_some, q_tl_none, nz_0, nz_1, nzn_0, nzn_1, nz_b, true_and, and_true, Nat.reduceLeDiff, Nat.reduceAdd, l_0, l_1, l_2, l_3, l_4, l_5, l_6, l_7, l_8, l_9, l_10, l_11, l_12, l_13, l_14, l_15, l_16, l_17, l_18, l_19, l_20, l_24, l_32, l_40, l_41, l_42, l_43, l_45, l_48, l_57, l_59, l_60, l_61, l_63, l_64, l_80, l_96, l_97, l_99, l_100, l_122, l_160, l_200, l_320, l_640, l_999, l_1000, l_1200, l_4000, l_99999, l_100000, l_100001, l_100002, l_100006, l_100010, l_252645135, l_858993459, l_1431655765, n_cl, n_lt, n_le, n_eq, n_in, n_add, n_mul, n_sub, n_div, n_mod, n_addneg, n_negl, n_nege, Nat.add_sub_cancel, d_ltT, d_ltF, d_leT, d_leF, d_eqT, d_eqF, ↓reduceIte, Nat.reduceLeDiff, Nat.reduceAdd, Nat.reduceMul, Nat.reduceSub, Nat.reduceLT, Nat.zero_add, Nat.add_zero, not_false_eq_true, pK_135, pK_136, pK_137, pK_138, pK_139, pK_140, pK_141, pK_142, pK_143, pK_144, pK_145, pK_146, pK_147, pK_148, pK_149, pK_150, pK_151, pK_152, pK_153, pK_154, pK_155, pK_156, pK_157, pK_158, pK_159, pK_160, pK_161, pK_162, pK_163, pK_164, pK_165, pK_166, pK_167, pK_168, pK_169, pK_170, pK_171, pK_172, pK_173, pK_174, pK_175, pK_176, pK_177, pK_178, pR_135_0, pR_135_2, pR_135_3, pR_135_4, pR_135_5, pR_135_6, pR_135_7, pR_135_11, pR_135_12, pR_135_13, pR_135_14, pR_135_15, pR_135_16, pR_135_17, pR_135_19, pR_135_20, pR_135_21, pR_135_23, pR_135_24, pR_135_33, pR_135_34, pR_135_35, pR_135_36, pR_135_37, pR_135_38, pR_135_39, pR_135_40, pR_135_41, pR_135_46, pR_135_47, pR_135_51, pR_135_52, pR_135_53, pR_135_54, pR_135_55, pR_135_56, pR_135_57, pR_135_58, pR_135_59, pR_135_61, pR_135_62, pR_135_63, pR_135_64, and_self]
      rw [show Int32.ofNat (m - 1) = Int32.ofNat m + -Int32.ofNat 1 from (n_addneg hm1).symm]
      exact m_feed_loop m I M (by omega) hW hM (fun _ _ => rfl) rfl hz hQ
    · simp only [if_neg hz] at hQ
      simp (disch := omega) only [r8017_0, r8017_1, r8017_2, r8017_4, r8017_7, r8017_10, r8017_12, r8017_13, r8017_14, r8017_17, r8017_18, r8017_19, r8017_22, r8017_25, r8017_27, m_in, hx, e1, b_eq0, b_eq1, b_0eq, ite_not, not_true_eq_false, not_false_eq_true, ↓reduceIte, va_rf_some, va_rf_none, cat_int, cat_ref, cat_null, cat_jk, q_cs_nil, q_cs_int, q_cs_ref, q_cs_long, q_tl_some, q_tl_none, nz_0, nz_1, nzn_0, nzn_1, nz_b, true_and, and_true, Nat.reduceLeDiff, Nat.reduceAdd, l_0, l_1, l_2, l_3, l_4, l_5, l_6, l_7, l_8, l_9, l_10, l_11, l_12, l_13, l_14, l_15, l_16, l_17, l_18, l_19, l_20, l_24, l_32, l_40, l_41, l_42, l_43, l_45, l_48, l_57, l_59, l_60, l_61, l_63, l_64, l_80, l_96, l_97, l_99, l_100, l_122, l_160, l_200, l_320, l_640, l_999, l_1000, l_1200, l_4000, l_99999, l_100000, l_100001, l_100002, l_100006, l_100010, l_252645135, l_858993459, l_1431655765, n_cl, n_lt, n_le, n_eq, n_in, n_add, n_mul, n_sub, n_div, n_mod, n_addneg, n_negl, n_nege, Nat.add_sub_cancel, d_ltT, d_ltF, d_leT, d_leF, d_eqT, d_eqF, ↓reduceIte, Nat.reduceLeDiff, Nat.reduceAdd, Nat.reduceMul, Nat.reduceSub, Nat.reduceLT, Nat.zero_add, Nat.add_zero, not_false_eq_true, pK_135, pK_136, pK_137, pK_138, pK_139, pK_140, pK_141, pK_142, pK_143, pK_144, pK_145, pK_146, pK_147, pK_148, pK_149, pK_150, pK_151, pK_152, pK_153, pK_154, pK_155, pK_156, pK_157, pK_158, pK_159, pK_160, pK_161, pK_162, pK_163, pK_164, pK_165, pK_166, pK_167, pK_168, pK_169, pK_170, pK_171, pK_172, pK_173, pK_174, pK_175, pK_176, pK_177, pK_178, pR_135_0, pR_135_2, pR_135_3, pR_135_4, pR_135_5, pR_135_6, pR_135_7, pR_135_11, pR_135_12, pR_135_13, pR_135_14, pR_135_15, pR_135_16, pR_135_17, pR_135_19, pR_135_20, pR_135_21, pR_135_23, pR_135_24, pR_135_33, pR_135_34, pR_135_35, pR_135_36, pR_135_37, pR_135_38, pR_135_39, pR_135_40, pR_135_41, pR_135_46, pR_135_47, pR_135_51, pR_135_52, pR_135_53, pR_135_54, pR_135_55, pR_135_56, pR_135_57, pR_135_58, pR_135_59, pR_135_61, pR_135_62, pR_135_63, pR_135_64, and_self]
      exact hQ I (fun _ _ => rfl) hM
  · simp only [if_neg hx] at hQ
    simp (disch := omega) only [r8017_0, r8017_1, r8017_2, r8017_4, r8017_7, r8017_10, r8017_12, m_in, hx, b_eq0, b_eq1, b_0eq, ite_not, not_true_eq_false, not_false_eq_true, ↓reduceIte, va_rf_some, va_rf_none, cat_int, cat_ref, cat_null, cat_jk, q_cs_nil, q_cs_int, q_cs_ref, q_cs_long, q_tl_some, q_tl_none, nz_0, nz_1, nzn_0, nzn_1, nz_b, true_and, and_true, Nat.reduceLeDiff, Nat.reduceAdd, l_0, l_1, l_2, l_3, l_4, l_5, l_6, l_7, l_8, l_9, l_10, l_11, l_12, l_13, l_14, l_15, l_16, l_17, l_18, l_19, l_20, l_24, l_32, l_40, l_41, l_42, l_43, l_45, l_48, l_57, l_59, l_60, l_61, l_63, l_64, l_80, l_96, l_97, l_99, l_100, l_122, l_160, l_200, l_320, l_640, l_999, l_1000, l_1200, l_4000, l_99999, l_100000, l_100001, l_100002, l_100006, l_100010, l_252645135, l_858993459, l_1431655765, n_cl, n_lt, n_le, n_eq, n_in, n_add, n_mul, n_sub, n_div, n_mod, n_addneg, n_negl, n_nege, Nat.add_sub_cancel, d_ltT, d_ltF, d_leT, d_leF, d_eqT, d_eqF, ↓reduceIte, Nat.reduceLeDiff, Nat.reduceAdd, Nat.reduceMul, Nat.reduceSub, Nat.reduceLT, Nat.zero_add, Nat.add_zero, not_false_eq_true, pK_135, pK_136, pK_137, pK_138, pK_139, pK_140, pK_141, pK_142, pK_143, pK_144, pK_145, pK_146, pK_147, pK_148, pK_149, pK_150, pK_151, pK_152, pK_153, pK_154, pK_155, pK_156, pK_157, pK_158, pK_159, pK_160, pK_161, pK_162, pK_163, pK_164, pK_165, pK_166, pK_167, pK_168, pK_169, pK_170, pK_171, pK_172, pK_173, pK_174, pK_175, pK_176, pK_177, pK_178, pR_135_0, pR_135_2, pR_135_3, pR_135_4, pR_135_5, pR_135_6, pR_135_7, pR_135_11, pR_135_12, pR_135_13, pR_135_14, pR_135_15, pR_135_16, pR_135_17, pR_135_19, pR_135_20, pR_135_21, pR_135_23, pR_135_24, pR_135_33, pR_135_34, pR_135_35, pR_135_36, pR_135_37, pR_135_38, pR_135_39, pR_135_40, pR_135_41, pR_135_46, pR_135_47, pR_135_51, pR_135_52, pR_135_53, pR_135_54, pR_135_55, pR_135_56, pR_135_57, pR_135_58, pR_135_59, pR_135_61, pR_135_62, pR_135_63, pR_135_64]
    exact hQ I (fun _ _ => rfl) hM
end
