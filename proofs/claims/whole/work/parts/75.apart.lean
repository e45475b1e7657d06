/-! apart -/
theorem i_bit {N v : Nat} (hN : N < 2147483648) (hv : v < 21) : (Int32.ofNat N >>> (Int32.ofNat v &&& Int32.ofNat 31)) &&& Int32.ofNat 1 = Int32.ofNat (N / 2 ^ v % 2) := by
  have es : ∀ v : Fin 21, (Int32.ofNat v.1 &&& Int32.ofNat 31).toBitVec.smod 32 = BitVec.ofNat 32 v.1 := by decide
  have es' := es ⟨v, hv⟩
  simp only at es'
  have e : Int32.ofNat N >>> (Int32.ofNat v &&& Int32.ofNat 31) = Int32.ofNat (N / 2 ^ v) := by
    apply Int32.toBitVec_inj.1
    rw [Int32.toBitVec_shiftRight, es']
    have hm : (Int32.ofNat N).toBitVec.msb = false := by
      rw [Int32.toBitVec_ofNat', BitVec.msb_eq_decide, BitVec.toNat_ofNat]
      exact decide_eq_false (by omega)
    show BitVec.sshiftRight _ (BitVec.ofNat 32 v).toNat = _
    rw [BitVec.sshiftRight_eq_of_msb_false hm]
    apply BitVec.eq_of_toNat_eq
    have hd : N / 2 ^ v ≤ N := Nat.div_le_self _ _
    rw [BitVec.toNat_ushiftRight, Int32.toBitVec_ofNat', Int32.toBitVec_ofNat', BitVec.toNat_ofNat, BitVec.toNat_ofNat, BitVec.toNat_ofNat, Nat.mod_eq_of_lt (show v < 2 ^ 32 by omega), Nat.mod_eq_of_lt (show N < 2 ^ 32 by omega), Nat.shiftRight_eq_div_pow, Nat.mod_eq_of_lt (show N / 2 ^ v < 2 ^ 32 by omega)]
  have hd : N / 2 ^ v ≤ N := Nat.div_le_self _ _
  rw [e, i_and (by omega) (by omega)]
  exact congrArg Int32.ofNat (Nat.and_two_pow_sub_one_eq_mod _ 1)
def p_tb (M : Nat → Nat → Int32) (k s j : Nat) : Bool := decide (p_un M s (p_hr M k 3 3 j) = -1)
def p_lc (M : Nat → Nat → Int32) (k s p : Nat) : Nat := p_pop (p_rd M k p s).toNatClampNeg 21
def p_ap (A B : Nat) (part : Int32) : Int64 := if B = 0 then part.toInt64 else p_low A B part
def p_aB (M : Nat → Nat → Int32) (k s : Nat) : Nat := p_sN (p_lc M k s) (p_pc M (p_si M k))
def p_aA (M : Nat → Nat → Int32) (k s : Nat) : Nat := p_cn (p_tb M k s) 49
def a_apart (M : Nat → Nat → Int32) (i s part : Int32) : Int64 := p_sel M i (-4611686018427387904) fun t =>
  if a_fw M s = 0 then (if 0 ≤ part ∧ part ≤ 1 then p_ap (p_aA M t s.toNatClampNeg) (p_aA M t s.toNatClampNeg + p_aB M t s.toNatClampNeg) part else -4611686018427387904) else -4611686018427387904
theorem rd_ok {M : Nat → Nat → Int32} {k p s : Nat} : ∃ N, N < 2097152 ∧ p_rd M k p s = Int32.ofNat N ∧ p_lc M k s p = p_pop N 21 := by
  obtain ⟨N, hN, e⟩ := it_lt (fun v => decide (p_un M s (p_rowM (p_fil M (p_si M k) 0 p (Int32.ofNat v)) k) = -1)) 21 (by omega)
  have eg : p_gr M k p s = fun v a => if decide (p_un M s (p_rowM (p_fil M (p_si M k) 0 p (Int32.ofNat v)) k) = -1) = true then a ||| ((1 : Int32) <<< (Int32.ofNat v &&& 31)) else a := by
    funext v a
    unfold p_gr
    by_cases h : p_un M s (p_rowM (p_fil M (p_si M k) 0 p (Int32.ofNat v)) k) = -1
    · rw [if_pos h, if_pos (decide_eq_true h)]
    · rw [if_neg h, if_neg (by rw [decide_eq_false h]; decide)]
  have er : p_rd M k p s = Int32.ofNat N := by unfold p_rd; rw [eg, e]
  have hN' : N < 2097152 := hN
  refine ⟨N, hN', er, ?_⟩
  unfold p_lc
  rw [er, n_cl (by omega)]
theorem lc_le {M : Nat → Nat → Int32} {k s : Nat} (p : Nat) : p_lc M k s p ≤ 21 := pop_le _ _
theorem tb_succ {M : Nat → Nat → Int32} {k s j : Nat} : p_cn (p_tb M k s) (j + 1) = if p_un M s (p_hr M k 3 3 j) = -Int32.ofNat 1 then p_cn (p_tb M k s) j + 1 else p_cn (p_tb M k s) j := by
  show (if decide (p_un M s (p_hr M k 3 3 j) = -1) = true then _ else _) = _
  by_cases h : p_un M s (p_hr M k 3 3 j) = -1
  · rw [if_pos (show p_un M s (p_hr M k 3 3 j) = -Int32.ofNat 1 from h), if_pos (decide_eq_true h)]
  · rw [if_neg (show ¬ p_un M s (p_hr M k 3 3 j) = -Int32.ofNat 1 from h), if_neg (by rw [decide_eq_false h]; decide)]
section
variable {d c L n : Nat} {Q : Option Value → q_H → Prop} {I M : Nat → Nat → Int32} {r : Nat → Nat → Option Nat} {dk : Nat → Nat × Nat}
theorem s_ap_hand {i part : Int32} {k t st b u vv s : Nat} {r0 : Nat → Nat → Option Nat} {I0 : Nat → Nat → Int32} (hW : p_wf M) (hsh : p_she I0 M s) (hs : s < 4) (hk : k < p_tn M)
    (hQ : ∀ I', p_cs r0 I0 r I' → q_wp (d + 7) c 7036 104 [.ref 32, .int i, .int (Int32.ofNat s), .int part, .ref t, .ref (124 + 2 * s), .int (Int32.ofNat (p_aA M k s)), .int (Int32.ofNat 0), .int (Int32.ofNat 0)] [] (p_h L I' r dk n) Q) :
    ∀ (m j : Nat) (I : Nat → Nat → Int32) (w0 p0 : Int32), j + m = 49 → p_cs r0 I0 r I → p_con I M → p_fa 45 L r dk I M k w0 p0 false t st b u vv →
      q_wp (d + 7) c 7036 60 [.ref 32, .int i, .int (Int32.ofNat s), .int part, .ref t, .ref (124 + 2 * s), .int (Int32.ofNat (p_cn (p_tb M k s) j)), .int (Int32.ofNat 0), .int (Int32.ofNat j)] [] (p_h L I r dk n) Q
  | 0, j, I, w0, p0, hj, h1, h2, h3 => by
    obtain rfl : j = 49 := hj
    rw [r7036_60]
    simp (disch := omega) only [r7036_62, r7036_63, r7036_64, r7036_67, r7036_101, r7036_102, s_handSize, Nat.reduceMul, Nat.reduceAdd, va_rf_some, va_rf_none, cat_int, cat_ref, cat_null, cat_jk, q_cs_nil, q_cs_int, q_cs_ref, q_cs_long, q_tl_some, q_tl_none, nz_0, nz_1, nzn_0, nzn_1, nz_b, true_and, and_true, Nat.reduceLeDiff, Nat.reduceAdd, l_0, l_1, l_2, l_3, l_4, l_5, l_6, l_7, l_8, l_9, l_10, l_11, l_12, l_13, l_14, l_15, l_16, l_17, l_18, l_19, l_20, l_24, l_32, l_40, l_41, l_42, l_43, l_45, l_48, l_57, l_59, l_60, l_61, l_63, l_64, l_80, l_96, l_97, l_99, l_100, l_122, l_160, l_200, l_320, l_640, l_999, l_1000, l_1200, l_4000, l_99999, l_100000, l_100001, l_100002, l_100006, l_100010, l_252645135, l_858993459, l_1431655765, n_cl, n_lt, n_le, n_eq, n_in, n_add, n_mul, n_sub, n_div, n_mod, n_addneg, n_negl, n_nege, Nat.add_sub_cancel, d_ltT, d_ltF, d_leT, d_leF, d_eqT, d_eqF, ↓reduceIte, Nat.reduceLeDiff, Nat.reduceAdd, Nat.reduceMul, Nat.reduceSub, Nat.reduceLT, Nat.zero_add, Nat.add_zero, not_false_eq_true, pK_32, pK_33, pK_34, pK_35, pK_36, pK_37, pK_38, pK_39, pK_40, pK_41, pK_42, pK_43, pK_44, pR_32_0, pR_32_1, pR_32_2, pR_32_3, pR_32_4, pR_32_5, pR_32_6, pR_32_7, pR_32_8, pR_33_0, pR_33_1, pR_33_2, pR_33_3, pR_36_0, pR_36_1, pR_36_2, pR_36_3, pR_37_0, pR_37_1, pR_37_3, pR_37_4, pR_42_0, pR_42_3, pK_124, pK_125, pK_126, pK_127, pK_128, pK_129, pK_130, pK_131, pK_132, pK_133, pK_134, pR_124_0, pR_126_0, pR_128_0, pR_130_0, pR_134_0, pR_134_1]
    exact hQ I h1
  | m + 1, j, I, w0, p0, hj, h1, h2, h3 => by
    have hto := h3.2.2.2.2.2.2.2.2.1
    have h32 : 32 ≤ t := by have := hto.1; omega
    have h132 : 32 ≤ 124 + 2 * s := by omega
    have hjj : j < (2 * 3 + 1) * (2 * 3 + 1) := by omega
    have hwd : ∀ (d' c' : Nat) (Q' : Option Value → q_H → Prop), _ := fun d' c' Q' => s_wander (d := d') (c := c') (L := L) (n := n) (Q := Q') hto (wf_way hW hk).1 (show 3 ≤ 3 by omega) (show 3 ≤ 3 by omega) hjj
    have hf := fa_hand hW hk h2 h3 (show 3 ≤ 3 by omega) (show 3 ≤ 3 by omega) (show j < p_hs 3 3 from hjj)
    have hj49 : j < 49 := by omega
    rw [r7036_60]
    simp (disch := omega) only [r7036_62, r7036_63, r7036_64, r7036_67, s_handSize, Nat.reduceMul, Nat.reduceAdd, va_rf_some, va_rf_none, cat_int, cat_ref, cat_null, cat_jk, q_cs_nil, q_cs_int, q_cs_ref, q_cs_long, q_tl_some, q_tl_none, nz_0, nz_1, nzn_0, nzn_1, nz_b, true_and, and_true, Nat.reduceLeDiff, Nat.reduceAdd, l_0, l_1, l_2, l_3, l_4, l_5, l_6, l_7, l_8, l_9, l_10, l_11, l_12, l_13, l_14, l_15, l_16, l_17, l_18, l_19, l_20, l_24, l_32, l_40, l_41, l_42, l_43, l_45, l_48, l_57, l_59, l_60, l_61, l_63, l_64, l_80, l_96, l_97, l_99, l_100, l_122, l_160, l_200, l_320, l_640, l_999, l_1000, l_1200, l_4000, l_99999, l_100000, l_100001, l_100002, l_100006, l_100010, l_252645135, l_858993459, l_1431655765, n_cl, n_lt, n_le, n_eq, n_in, n_add, n_mul, n_sub, n_div, n_mod, n_addneg, n_negl, n_nege, Nat.add_sub_cancel, d_ltT, d_ltF, d_leT, d_leF, d_eqT, d_eqF, ↓reduceIte, Nat.reduceLeDiff, Nat.reduceAdd, Nat.reduceMul, Nat.reduceSub, Nat.reduceLT, Nat.zero_add, Nat.add_zero, not_false_eq_true, pK_32, pK_33, pK_34, pK_35, pK_36, pK_37, pK_38, pK_39, pK_40, pK_41, pK_42, pK_43, pK_44, pR_32_0, pR_32_1, pR_32_2, pR_32_3, pR_32_4, pR_32_5, pR_32_6, pR_32_7, pR_32_8, pR_33_0, pR_33_1, pR_33_2, pR_33_3, pR_36_0, pR_36_1, pR_36_2, pR_36_3, pR_37_0, pR_37_1, pR_37_3, pR_37_4, pR_42_0, pR_42_3, pK_124, pK_125, pK_126, pK_127, pK_128, pK_129, pK_130, pK_131, pK_132, pK_133, pK_134, pR_124_0, pR_126_0, pR_128_0, pR_130_0, pR_134_0, pR_134_1]
    simp (disch := omega) only [r7036_70, r7036_71, r7036_71n, r7036_73, r7036_74, r7036_75, r7036_77, r7036_80, r7036_81, r7036_84, r7036_84n, r7036_86, hwd, q_tl_none, h32, h132, va_rf_some, va_rf_none, cat_int, cat_ref, cat_null, cat_jk, q_cs_nil, q_cs_int, q_cs_ref, q_cs_long, q_tl_some, q_tl_none, nz_0, nz_1, nzn_0, nzn_1, nz_b, true_and, and_true, Nat.reduceLeDiff, Nat.reduceAdd, l_0, l_1, l_2, l_3, l_4, l_5, l_6, l_7, l_8, l_9, l_10, l_11, l_12, l_13, l_14, l_15, l_16, l_17, l_18, l_19, l_20, l_24, l_32, l_40, l_41, l_42, l_43, l_45, l_48, l_57, l_59, l_60, l_61, l_63, l_64, l_80, l_96, l_97, l_99, l_100, l_122, l_160, l_200, l_320, l_640, l_999, l_1000, l_1200, l_4000, l_99999, l_100000, l_100001, l_100002, l_100006, l_100010, l_252645135, l_858993459, l_1431655765, n_cl, n_lt, n_le, n_eq, n_in, n_add, n_mul, n_sub, n_div, n_mod, n_addneg, n_negl, n_nege, Nat.add_sub_cancel, d_ltT, d_ltF, d_leT, d_leF, d_eqT, d_eqF, ↓reduceIte, Nat.reduceLeDiff, Nat.reduceAdd, Nat.reduceMul, Nat.reduceSub, Nat.reduceLT, Nat.zero_add, Nat.add_zero, not_false_eq_true, pK_32, pK_33, pK_34, pK_35, pK_36, pK_37, pK_38, pK_39, pK_40, pK_41, pK_42, pK_43, pK_44, pR_32_0, pR_32_1, pR_32_2, pR_32_3, pR_32_4, pR_32_5, pR_32_6, pR_32_7, pR_32_8, pR_33_0, pR_33_1, pR_33_2, pR_33_3, pR_36_0, pR_36_1, pR_36_2, pR_36_3, pR_37_0, pR_37_1, pR_37_3, pR_37_4, pR_42_0, pR_42_3, pK_124, pK_125, pK_126, pK_127, pK_128, pK_129, pK_130, pK_131, pK_132, pK_133, pK_134, pR_124_0, pR_126_0, pR_128_0, pR_130_0, pR_134_0, pR_134_1, pK_45]
    refine s_unlike hW hs (she_fr hsh hs fun a ha => by rw [q_up_fa (by omega), q_up_fa (by omega)]; exact h1.1 a ha) hf.1 hf.2.1 hf.2.2 fun I2 q1 q2 => ?_
    have IH := s_ap_hand (i := i) (part := part) hW hsh hs hk hQ m (j + 1) I2 _ _ (by omega) (p_cs_trans h1 ⟨fun a ha => (q1 a (by omega)).trans (by rw [q_up_fa (by omega), q_up_fa (by omega)]), fun _ _ _ => rfl⟩) (con_fr hf.1 (q1 0 (by omega)) (q1 1 (by omega))) (p_fa_fr (.inl rfl) hf.2.1 (fun a ha => q1 a (by omega)) q2)
    have e := tb_succ (M := M) (k := k) (s := s) (j := j)
    rw [e] at IH
    simp (disch := omega) only [q_tl_some, r7036_89, r7036_92, r7036_95, r7036_98, un_neg hW hs, ite_not, va_rf_some, va_rf_none, cat_int, cat_ref, cat_null, cat_jk, q_cs_nil, q_cs_int, q_cs_ref, q_cs_long, q_tl_some, q_tl_none, nz_0, nz_1, nzn_0, nzn_1, nz_b, true_and, and_true, Nat.reduceLeDiff, Nat.reduceAdd, l_0, l_1, l_2, l_3, l_4, l_5, l_6, l_7, l_8, l_9, l_10, l_11, l_12, l_13, l_14, l_15, l_16, l_17, l_18, l_19, l_20, l_24, l_32, l_40, l_41, l_42, l_43, l_45, l_48, l_57, l_59, l_60, l_61, l_63, l_64, l_80, l_96, l_97, l_99, l_100, l_122, l_160, l_200, l_320, l_640, l_999, l_1000, l_1200, l_4000, l_99999, l_100000, l_100001, l_100002, l_100006, l_100010, l_252645135, l_858993459, l_1431655765, n_cl, n_lt, n_le, n_eq, n_in, n_add, n_mul, n_sub, n_div, n_mod, n_addneg, n_negl, n_nege, Nat.add_sub_cancel, d_ltT, d_ltF, d_leT, d_leF, d_eqT, d_eqF, ↓reduceIte, Nat.reduceLeDiff, Nat.reduceAdd, Nat.reduceMul, Nat.reduceSub, Nat.reduceLT, Nat.zero_add, Nat.add_zero, not_false_eq_true, pK_32, pK_33, pK_34, pK_35, pK_36, pK_37, pK_38, pK_39, pK_40, pK_41, pK_42, pK_43, pK_44, pR_32_0, pR_32_1, pR_32_2, pR_32_3, pR_32_4, pR_32_5, pR_32_6, pR_32_7, pR_32_8, pR_33_0, pR_33_1, pR_33_2, pR_33_3, pR_36_0, pR_36_1, pR_36_2, pR_36_3, pR_37_0, pR_37_1, pR_37_3, pR_37_4, pR_42_0, pR_42_3, pK_124, pK_125, pK_126, pK_127, pK_128, pK_129, pK_130, pK_131, pK_132, pK_133, pK_134, pR_124_0, pR_126_0, pR_128_0, pR_130_0, pR_134_0, pR_134_1]
    split
    · rename_i hb
      rw [if_pos (show p_un M s (p_hr M k 3 3 j) = -Int32.ofNat 1 from hb)] at IH
      exact IH
    · rename_i hb
      rw [if_neg (show ¬ p_un M s (p_hr M k 3 3 j) = -Int32.ofNat 1 from hb)] at IH
      exact IH
theorem s_ap_lift {i part : Int32} {k t s A : Nat} {r0 : Nat → Nat → Option Nat} {I0 : Nat → Nat → Int32} (hW : p_wf M) (hC : p_CR L r0 dk n I0 M) (hs : s < 4) (hk : k < p_tn M) (ht : r0 34 k = some t) (hto : p_to r0 dk I0 M k t) (hA : A ≤ 49)
    (hQ : ∀ I' r', p_cs r0 I0 r' I' → Q (some (.long (p_ap A (A + p_aB M k s) part))) (p_h L I' r' dk n)) :
    ∀ (m p : Nat) (I : Nat → Nat → Int32) (r : Nat → Nat → Option Nat), p + m = p_pc M (p_si M k) → p_cs r0 I0 r I →
      q_wp (d + 8) c 7036 104 [.ref 32, .int i, .int (Int32.ofNat s), .int part, .ref t, .ref (124 + 2 * s), .int (Int32.ofNat A), .int (Int32.ofNat (p_sN (p_lc M k s) p)), .int (Int32.ofNat p)] [] (p_h L I r dk n) Q
  | 0, p, I, r, hp, h1 => by
    have hs4 := wf_si hW hk
    obtain ⟨e, h6⟩ := p_pc_eq hW hs4
    have hC1 := p_CR_cs hC h1
    have kt : p_K L dk t = (6, 0) := (p_K_dyn hto.1).trans hto.2.1
    have h32 : 32 ≤ t := by have := hto.1; omega
    have rt0 : r0 t 1 = some (80 + 11 * p_si M k) := hto.2.2.2.2.2.2.2.2.2
    have rt : p_R r t 1 = some (80 + 11 * p_si M k) := (p_R_dyn hto.1).trans ((h1.2 t 1 (by have := hto.1; omega)).trans rt0)
    have hsk : p_ska (80 + 11 * p_si M k) := by unfold p_ska; omega
    have kst := (k_st (L := L) (dk := dk) hsk).1
    have hst32 : 32 ≤ 80 + 11 * p_si M k := by omega
    have e3 : I (80 + 11 * p_si M k) 3 = Int32.ofNat (p_pc M (p_si M k)) := (hC1.2.1 _ hs4).1.1.trans e
    obtain rfl : p = p_pc M (p_si M k) := hp
    have hB := p_sN_le (lc_le (M := M) (k := k) (s := s)) (p_pc M (p_si M k))
    have hB2 : 21 * p_pc M (p_si M k) ≤ 126 := by omega
    have eB : p_sN (p_lc M k s) (p_pc M (p_si M k)) = p_aB M k s := rfl
    rw [eB] at hB ⊢
    have h := hQ I r h1
    unfold p_ap at h
    rw [r7036_104]
    by_cases hz : A + p_aB M k s = 0
    · rw [if_pos hz] at h
      simp (disch := omega) only [r7036_106, r7036_106n, r7036_108, r7036_111, r7036_114, r7036_117, r7036_119, r7036_120, r7036_120n, r7036_122, r7036_124, r7036_124n, r7036_126, r7036_129, r7036_132, r7036_133, r7036_135, r7036_138, r7036_141, r7036_143, r7036_145, r7036_146, r7036_148, r7036_150, r7036_153, r7036_154, r7036_155, r7036_168, hz, h32, kt, rt, kst, hst32, e3, va_rf_some, va_rf_none, cat_int, cat_ref, cat_null, cat_jk, q_cs_nil, q_cs_int, q_cs_ref, q_cs_long, q_tl_some, q_tl_none, nz_0, nz_1, nzn_0, nzn_1, nz_b, true_and, and_true, Nat.reduceLeDiff, Nat.reduceAdd, l_0, l_1, l_2, l_3, l_4, l_5, l_6, l_7, l_8, l_9, l_10, l_11, l_12, l_13, l_14, l_15, l_16, l_17, l_18, l_19, l_20, l_24, l_32, l_40, l_41, l_42, l_43, l_45, l_48, l_57, l_59, l_60, l_61, l_63, l_64, l_80, l_96, l_97, l_99, l_100, l_122, l_160, l_200, l_320, l_640, l_999, l_1000, l_1200, l_4000, l_99999, l_100000, l_100001, l_100002, l_100006, l_100010, l_252645135, l_858993459, l_1431655765, n_cl, n_lt, n_le, n_eq, n_in, n_add, n_mul, n_sub, n_div, n_mod, n_addneg, n_negl, n_nege, Nat.add_sub_cancel, d_ltT, d_ltF, d_leT, d_leF, d_eqT, d_eqF, ↓reduceIte, Nat.reduceLeDiff, Nat.reduceAdd, Nat.reduceMul, Nat.reduceSub, Nat.reduceLT, Nat.zero_add, Nat.add_zero, not_false_eq_true, pK_32, pK_33, pK_34, pK_35, pK_36, pK_37, pK_38, pK_39, pK_40, pK_41, pK_42, pK_43, pK_44, pR_32_0, pR_32_1, pR_32_2, pR_32_3, pR_32_4, pR_32_5, pR_32_6, pR_32_7, pR_32_8, pR_33_0, pR_33_1, pR_33_2, pR_33_3, pR_36_0, pR_36_1, pR_36_2, pR_36_3, pR_37_0, pR_37_1, pR_37_3, pR_37_4, pR_42_0, pR_42_3, pK_124, pK_125, pK_126, pK_127, pK_128, pK_129, pK_130, pK_131, pK_132, pK_133, pK_134, pR_124_0, pR_126_0, pR_128_0, pR_130_0, pR_134_0, pR_134_1]
      exact h
    · rw [if_neg hz] at h
      simp (disch := omega) only [r7036_106, r7036_106n, r7036_108, r7036_111, r7036_114, r7036_117, r7036_119, r7036_120, r7036_120n, r7036_122, r7036_124, r7036_124n, r7036_126, r7036_129, r7036_132, r7036_133, r7036_135, r7036_138, r7036_141, r7036_143, r7036_145, r7036_146, r7036_148, r7036_150, r7036_153, r7036_154, r7036_155, r7036_158, r7036_160, r7036_161, r7036_163, r7036_164, r7036_165, r7036_168, hz, s_low, n_i2l, h32, kt, rt, kst, hst32, e3, va_rf_some, va_rf_none, cat_int, cat_ref, cat_null, cat_jk, q_cs_nil, q_cs_int, q_cs_ref, q_cs_long, q_tl_some, q_tl_none, nz_0, nz_1, nzn_0, nzn_1, nz_b, true_and, and_true, Nat.reduceLeDiff, Nat.reduceAdd, l_0, l_1, l_2, l_3, l_4, l_5, l_6, l_7, l_8, l_9, l_10, l_11, l_12, l_13, l_14, l_15, l_16, l_17, l_18, l_19, l_20, l_24, l_32, l_40, l_41, l_42, l_43, l_45, l_48, l_57, l_59, l_60, l_61, l_63, l_64, l_80, l_96, l_97, l_99, l_100, l_122, l_160, l_200, l_320, l_640, l_999, l_1000, l_1200, l_4000, l_99999, l_100000, l_100001, l_100002, l_100006, l_100010, l_252645135, l_858993459, l_1431655765, n_cl, n_lt, n_le, n_eq, n_in, n_add, n_mul, n_sub, n_div, n_mod, n_addneg, n_negl, n_nege, Nat.add_sub_cancel, d_ltT, d_ltF, d_leT, d_leF, d_eqT, d_eqF, ↓reduceIte, Nat.reduceLeDiff, Nat.reduceAdd, Nat.reduceMul, Nat.reduceSub, Nat.reduceLT, Nat.zero_add, Nat.add_zero, not_false_eq_true, pK_32, pK_33, pK_34, pK_35, pK_36, pK_37, pK_38, pK_39, pK_40, pK_41, pK_42, pK_43, pK_44, pR_32_0, pR_32_1, pR_32_2, pR_32_3, pR_32_4, pR_32_5, pR_32_6, pR_32_7, pR_32_8, pR_33_0, pR_33_1, pR_33_2, pR_33_3, pR_36_0, pR_36_1, pR_36_2, pR_36_3, pR_37_0, pR_37_1, pR_37_3, pR_37_4, pR_42_0, pR_42_3, pK_124, pK_125, pK_126, pK_127, pK_128, pK_129, pK_130, pK_131, pK_132, pK_133, pK_134, pR_124_0, pR_126_0, pR_128_0, pR_130_0, pR_134_0, pR_134_1]
      exact h
  | m + 1, p, I, r, hp, h1 => by
    have hs4 := wf_si hW hk
    obtain ⟨e, h6⟩ := p_pc_eq hW hs4
    have hC1 := p_CR_cs hC h1
    have kt : p_K L dk t = (6, 0) := (p_K_dyn hto.1).trans hto.2.1
    have h32 : 32 ≤ t := by have := hto.1; omega
    have h132 : 32 ≤ 124 + 2 * s := by omega
    have rt0 : r0 t 1 = some (80 + 11 * p_si M k) := hto.2.2.2.2.2.2.2.2.2
    have rt : p_R r t 1 = some (80 + 11 * p_si M k) := (p_R_dyn hto.1).trans ((h1.2 t 1 (by have := hto.1; omega)).trans rt0)
    have hsk : p_ska (80 + 11 * p_si M k) := by unfold p_ska; omega
    have kst := (k_st (L := L) (dk := dk) hsk).1
    have hst32 : 32 ≤ 80 + 11 * p_si M k := by omega
    have e3 : I (80 + 11 * p_si M k) 3 = Int32.ofNat (p_pc M (p_si M k)) := (hC1.2.1 _ hs4).1.1.trans e
    obtain ⟨t1, ht1, htn1, hto1⟩ := hC1.2.2.1 k hk
    have htt : t1 = t := by
      have a1 : r 34 k = r0 34 k := h1.2 34 k (by omega)
      rw [a1, ht] at ht1
      exact (Option.some.inj ht1).symm
    subst htt
    rw [r7036_104]
    simp (disch := omega) only [r7036_106, r7036_106n, r7036_108, r7036_111, r7036_114, r7036_117, r7036_119, r7036_120, r7036_120n, r7036_122, r7036_124, r7036_124n, r7036_126, h32, h132, kt, rt, kst, hst32, e3, va_rf_some, va_rf_none, cat_int, cat_ref, cat_null, cat_jk, q_cs_nil, q_cs_int, q_cs_ref, q_cs_long, q_tl_some, q_tl_none, nz_0, nz_1, nzn_0, nzn_1, nz_b, true_and, and_true, Nat.reduceLeDiff, Nat.reduceAdd, l_0, l_1, l_2, l_3, l_4, l_5, l_6, l_7, l_8, l_9, l_10, l_11, l_12, l_13, l_14, l_15, l_16, l_17, l_18, l_19, l_20, l_24, l_32, l_40, l_41, l_42, l_43, l_45, l_48, l_57, l_59, l_60, l_61, l_63, l_64, l_80, l_96, l_97, l_99, l_100, l_122, l_160, l_200, l_320, l_640, l_999, l_1000, l_1200, l_4000, l_99999, l_100000, l_100001, l_100002, l_100006, l_100010, l_252645135, l_858993459, l_1431655765, n_cl, n_lt, n_le, n_eq, n_in, n_add, n_mul, n_sub, n_div, n_mod, n_addneg, n_negl, n_nege, Nat.add_sub_cancel, d_ltT, d_ltF, d_leT, d_leF, d_eqT, d_eqF, ↓reduceIte, Nat.reduceLeDiff, Nat.reduceAdd, Nat.reduceMul, Nat.reduceSub, Nat.reduceLT, Nat.zero_add, Nat.add_zero, not_false_eq_true, pK_32, pK_33, pK_34, pK_35, pK_36, pK_37, pK_38, pK_39, pK_40, pK_41, pK_42, pK_43, pK_44, pR_32_0, pR_32_1, pR_32_2, pR_32_3, pR_32_4, pR_32_5, pR_32_6, pR_32_7, pR_32_8, pR_33_0, pR_33_1, pR_33_2, pR_33_3, pR_36_0, pR_36_1, pR_36_2, pR_36_3, pR_37_0, pR_37_1, pR_37_3, pR_37_4, pR_42_0, pR_42_3, pK_124, pK_125, pK_126, pK_127, pK_128, pK_129, pK_130, pK_131, pK_132, pK_133, pK_134, pR_124_0, pR_126_0, pR_128_0, pR_130_0, pR_134_0, pR_134_1]
    refine s_lifts hW hC1 hk ht1 hto1 hs (show p < p_pc M (p_si M k) by omega) fun I' r' h2 => ?_
    obtain ⟨N, hN, eN, ep⟩ := rd_ok (M := M) (k := k) (p := p) (s := s)
    have IH := s_ap_lift (i := i) hW hC hs hk ht hto hA hQ m (p + 1) I' r' (by omega) (p_cs_trans h1 h2)
    have e : p_sN (p_lc M k s) (p + 1) = p_sN (p_lc M k s) p + p_pop N 21 := by rw [← ep]; rfl
    rw [e] at IH
    simp (disch := omega) only [q_tl_some, r7036_129, r7036_132, r7036_133, r7036_135, r7036_138, s_bitCount, eN, bc_eq hN, n_add, va_rf_some, va_rf_none, cat_int, cat_ref, cat_null, cat_jk, q_cs_nil, q_cs_int, q_cs_ref, q_cs_long, q_tl_some, q_tl_none, nz_0, nz_1, nzn_0, nzn_1, nz_b, true_and, and_true, Nat.reduceLeDiff, Nat.reduceAdd, l_0, l_1, l_2, l_3, l_4, l_5, l_6, l_7, l_8, l_9, l_10, l_11, l_12, l_13, l_14, l_15, l_16, l_17, l_18, l_19, l_20, l_24, l_32, l_40, l_41, l_42, l_43, l_45, l_48, l_57, l_59, l_60, l_61, l_63, l_64, l_80, l_96, l_97, l_99, l_100, l_122, l_160, l_200, l_320, l_640, l_999, l_1000, l_1200, l_4000, l_99999, l_100000, l_100001, l_100002, l_100006, l_100010, l_252645135, l_858993459, l_1431655765, n_cl, n_lt, n_le, n_eq, n_in, n_add, n_mul, n_sub, n_div, n_mod, n_addneg, n_negl, n_nege, Nat.add_sub_cancel, d_ltT, d_ltF, d_leT, d_leF, d_eqT, d_eqF, ↓reduceIte, Nat.reduceLeDiff, Nat.reduceAdd, Nat.reduceMul, Nat.reduceSub, Nat.reduceLT, Nat.zero_add, Nat.add_zero, not_false_eq_true, pK_32, pK_33, pK_34, pK_35, pK_36, pK_37, pK_38, pK_39, pK_40, pK_41, pK_42, pK_43, pK_44, pR_32_0, pR_32_1, pR_32_2, pR_32_3, pR_32_4, pR_32_5, pR_32_6, pR_32_7, pR_32_8, pR_33_0, pR_33_1, pR_33_2, pR_33_3, pR_36_0, pR_36_1, pR_36_2, pR_36_3, pR_37_0, pR_37_1, pR_37_3, pR_37_4, pR_42_0, pR_42_3, pK_124, pK_125, pK_126, pK_127, pK_128, pK_129, pK_130, pK_131, pK_132, pK_133, pK_134, pR_124_0, pR_126_0, pR_128_0, pR_130_0, pR_134_0, pR_134_1]
    exact IH
theorem c_apart (hW : p_wf M) (hC : p_CR L r dk n I M) {i s part : Int32} (hQ : ∀ I' r', p_cs r I r' I' → Q (some (.long (a_apart M i s part))) (p_h L I' r' dk n)) :
    q_wp (d + 9) c 7036 0 [.ref 32, .int i, .int s, .int part, q_jk, q_jk, q_jk, q_jk, q_jk] [] (p_h L I r dk n) Q := by
  simp only [a_apart, l_0, l_1, l_2, l_3, l_4, l_5, l_6, l_7, l_8, l_9, l_10, l_11, l_12, l_13, l_14, l_15, l_16, l_17, l_18, l_19, l_20, l_24, l_32, l_40, l_41, l_42, l_43, l_45, l_48, l_57, l_59, l_60, l_61, l_63, l_64, l_80, l_96, l_97, l_99, l_100, l_122, l_160, l_200, l_320, l_640, l_999, l_1000, l_1200, l_4000, l_99999, l_100000, l_100001, l_100002, l_100006, l_100010, l_252645135, l_858993459, l_1431655765] at hQ
  by_cases hi : p_is i (p_tn M)
  · obtain ⟨t0, hk, rfl⟩ := hi
    obtain ⟨t, ht, htn, hto⟩ := hC.2.2.1 t0 hk
    have h32 : 32 ≤ t := by have := hto.1; omega
    simp only [p_sel_ok hW hk] at hQ
    by_cases hf : a_fw M s = Int32.ofNat 0
    · simp only [if_pos hf] at hQ
      by_cases hp : Int32.ofNat 0 ≤ part ∧ part ≤ Int32.ofNat 1
      · simp only [if_pos hp] at hQ
        obtain ⟨s', hs', rfl⟩ := fw_ok hf
        simp only [n_cl (show s' < 2147483648 by omega)] at hQ
        obtain ⟨k1, k2, k3, k4⟩ := k_she (L := L) (r := r) (dk := dk) hs'
        have h132 : 32 ≤ 124 + 2 * s' := by omega
        simp (disch := omega) only [r7036_0, r7036_1, r7036_2, r7036_5, r7036_5n, r7036_7, r7036_7n, r7036_9, r7036_9n, r7036_12, r7036_13, r7036_14, r7036_17, r7036_20, r7036_21, r7036_22, r7036_23, r7036_26, r7036_29, r7036_32, r7036_33, r7036_34, r7036_37, r7036_38, r7036_39, r7036_39n, r7036_41, r7036_42, r7036_43, r7036_46, r7036_46n, r7036_48, s_tossAt hW hC hk ht h32, s_within, s_filmRefused hW hC, hf, hp, h32, h132, k4, b_eq0, b_eq1, b_0eq, ite_not, not_true_eq_false, not_false_eq_true, ↓reduceIte, va_rf_some, va_rf_none, cat_int, cat_ref, cat_null, cat_jk, q_cs_nil, q_cs_int, q_cs_ref, q_cs_long, q_tl_some, q_tl_none, nz_0, nz_1, nzn_0, nzn_1, nz_b, true_and, and_true, Nat.reduceLeDiff, Nat.reduceAdd, l_0, l_1, l_2, l_3, l_4, l_5, l_6, l_7, l_8, l_9, l_10, l_11, l_12, l_13, l_14, l_15, l_16, l_17, l_18, l_19, l_20, l_24, l_32, l_40, l_41, l_42, l_43, l_45, l_48, l_57, l_59, l_60, l_61, l_63, l_64, l_80, l_96, l_97, l_99, l_100, l_122, l_160, l_200, l_320, l_640, l_999, l_1000, l_1200, l_4000, l_99999, l_100000, l_100001, l_100002, l_100006, l_100010, l_252645135, l_858993459, l_1431655765, n_cl, n_lt, n_le, n_eq, n_in, n_add, n_mul, n_sub, n_div, n_mod, n_addneg, n_negl, n_nege, Nat.add_sub_cancel, d_ltT, d_ltF, d_leT, d_leF, d_eqT, d_eqF, ↓reduceIte, Nat.reduceLeDiff, Nat.reduceAdd, Nat.reduceMul, Nat.reduceSub, Nat.reduceLT, Nat.zero_add, Nat.add_zero, not_false_eq_true, pK_32, pK_33, pK_34, pK_35, pK_36, pK_37, pK_38, pK_39, pK_40, pK_41, pK_42, pK_43, pK_44, pR_32_0, pR_32_1, pR_32_2, pR_32_3, pR_32_4, pR_32_5, pR_32_6, pR_32_7, pR_32_8, pR_33_0, pR_33_1, pR_33_2, pR_33_3, pR_36_0, pR_36_1, pR_36_2, pR_36_3, pR_37_0, pR_37_1, pR_37_3, pR_37_4, pR_42_0, pR_42_3, pK_124, pK_125, pK_126, pK_127, pK_128, pK_129, pK_130, pK_131, pK_132, pK_133, pK_134, pR_124_0, pR_126_0, pR_128_0, pR_130_0, pR_134_0, pR_134_1]
        refine s_aim hW hC (.inl rfl) hk ht hto fun I' r' b u vv h1 h2 h3 h4 => ?_
        simp (disch := omega) only [q_tl_none, r7036_51, r7036_52, r7036_54, r7036_55, r7036_57, r7036_58, va_rf_some, va_rf_none, cat_int, cat_ref, cat_null, cat_jk, q_cs_nil, q_cs_int, q_cs_ref, q_cs_long, q_tl_some, q_tl_none, nz_0, nz_1, nzn_0, nzn_1, nz_b, true_and, and_true, Nat.reduceLeDiff, Nat.reduceAdd, l_0, l_1, l_2, l_3, l_4, l_5, l_6, l_7, l_8, l_9, l_10, l_11, l_12, l_13, l_14, l_15, l_16, l_17, l_18, l_19, l_20, l_24, l_32, l_40, l_41, l_42, l_43, l_45, l_48, l_57, l_59, l_60, l_61, l_63, l_64, l_80, l_96, l_97, l_99, l_100, l_122, l_160, l_200, l_320, l_640, l_999, l_1000, l_1200, l_4000, l_99999, l_100000, l_100001, l_100002, l_100006, l_100010, l_252645135, l_858993459, l_1431655765, n_cl, n_lt, n_le, n_eq, n_in, n_add, n_mul, n_sub, n_div, n_mod, n_addneg, n_negl, n_nege, Nat.add_sub_cancel, d_ltT, d_ltF, d_leT, d_leF, d_eqT, d_eqF, ↓reduceIte, Nat.reduceLeDiff, Nat.reduceAdd, Nat.reduceMul, Nat.reduceSub, Nat.reduceLT, Nat.zero_add, Nat.add_zero, not_false_eq_true, pK_32, pK_33, pK_34, pK_35, pK_36, pK_37, pK_38, pK_39, pK_40, pK_41, pK_42, pK_43, pK_44, pR_32_0, pR_32_1, pR_32_2, pR_32_3, pR_32_4, pR_32_5, pR_32_6, pR_32_7, pR_32_8, pR_33_0, pR_33_1, pR_33_2, pR_33_3, pR_36_0, pR_36_1, pR_36_2, pR_36_3, pR_37_0, pR_37_1, pR_37_3, pR_37_4, pR_42_0, pR_42_3, pK_124, pK_125, pK_126, pK_127, pK_128, pK_129, pK_130, pK_131, pK_132, pK_133, pK_134, pR_124_0, pR_126_0, pR_128_0, pR_130_0, pR_134_0, pR_134_1]
        refine s_ap_hand (d := d + 2) (I0 := I) (r0 := r) hW (she_CR hC hs') hs' hk (fun I2 h5 => ?_) 49 0 I' _ _ (by omega) h3 (p_CR_cs hC h3).2.2.2.2.2.2.2.1 h4
        exact s_ap_lift (d := d + 1) (I0 := I) (r0 := r) hW hC hs' hk ht hto (p_cn_le _ 49) hQ (p_pc M (p_si M t0)) 0 I2 r' (by omega) h5
      · simp only [if_neg hp] at hQ
        simp (disch := omega) only [r7036_0, r7036_1, r7036_2, r7036_5, r7036_5n, r7036_7, r7036_7n, r7036_9, r7036_9n, r7036_12, r7036_13, r7036_14, r7036_17, r7036_20, r7036_21, r7036_22, r7036_23, r7036_26, r7036_29, r7036_32, s_tossAt hW hC hk ht h32, s_within, s_filmRefused hW hC, hf, hp, h32, b_eq0, b_eq1, b_0eq, ite_not, not_true_eq_false, not_false_eq_true, ↓reduceIte, va_rf_some, va_rf_none, cat_int, cat_ref, cat_null, cat_jk, q_cs_nil, q_cs_int, q_cs_ref, q_cs_long, q_tl_some, q_tl_none, nz_0, nz_1, nzn_0, nzn_1, nz_b, true_and, and_true, Nat.reduceLeDiff, Nat.reduceAdd, l_0, l_1, l_2, l_3, l_4, l_5, l_6, l_7, l_8, l_9, l_10, l_11, l_12, l_13, l_14, l_15, l_16, l_17, l_18, l_19, l_20, l_24, l_32, l_40, l_41, l_42, l_43, l_45, l_48, l_57, l_59, l_60, l_61, l_63, l_64, l_80, l_96, l_97, l_99, l_100, l_122, l_160, l_200, l_320, l_640, l_999, l_1000, l_1200, l_4000, l_99999, l_100000, l_100001, l_100002, l_100006, l_100010, l_252645135, l_858993459, l_1431655765, n_cl, n_lt, n_le, n_eq, n_in, n_add, n_mul, n_sub, n_div, n_mod, n_addneg, n_negl, n_nege, Nat.add_sub_cancel, d_ltT, d_ltF, d_leT, d_leF, d_eqT, d_eqF, ↓reduceIte, Nat.reduceLeDiff, Nat.reduceAdd, Nat.reduceMul, Nat.reduceSub, Nat.reduceLT, Nat.zero_add, Nat.add_zero, not_false_eq_true, pK_32, pK_33, pK_34, pK_35, pK_36, pK_37, pK_38, pK_39, pK_40, pK_41, pK_42, pK_43, pK_44, pR_32_0, pR_32_1, pR_32_2, pR_32_3, pR_32_4, pR_32_5, pR_32_6, pR_32_7, pR_32_8, pR_33_0, pR_33_1, pR_33_2, pR_33_3, pR_36_0, pR_36_1, pR_36_2, pR_36_3, pR_37_0, pR_37_1, pR_37_3, pR_37_4, pR_42_0, pR_42_3, pK_124, pK_125, pK_126, pK_127, pK_128, pK_129, pK_130, pK_131, pK_132, pK_133, pK_134, pR_124_0, pR_126_0, pR_128_0, pR_130_0, pR_134_0, pR_134_1]
        exact hQ I r p_cs_refl
    · simp only [if_neg hf] at hQ
      simp (disch := omega) only [r7036_0, r7036_1, r7036_2, r7036_5, r7036_5n, r7036_7, r7036_7n, r7036_9, r7036_9n, r7036_12, r7036_13, r7036_14, r7036_17, r7036_20, r7036_21, r7036_22, r7036_23, r7036_26, r7036_29, r7036_32, s_tossAt hW hC hk ht h32, s_filmRefused hW hC, hf, h32, b_eq0, b_eq1, b_0eq, ite_not, not_true_eq_false, not_false_eq_true, ↓reduceIte, va_rf_some, va_rf_none, cat_int, cat_ref, cat_null, cat_jk, q_cs_nil, q_cs_int, q_cs_ref, q_cs_long, q_tl_some, q_tl_none, nz_0, nz_1, nzn_0, nzn_1, nz_b, true_and, and_true, Nat.reduceLeDiff, Nat.reduceAdd, l_0, l_1, l_2, l_3, l_4, l_5, l_6, l_7, l_8, l_9, l_10, l_11, l_12, l_13, l_14, l_15, l_16, l_17, l_18, l_19, l_20, l_24, l_32, l_40, l_41, l_42, l_43, l_45, l_48, l_57, l_59, l_60, l_61, l_63, l_64, l_80, l_96, l_97, l_99, l_100, l_122, l_160, l_200, l_320, l_640, l_999, l_1000, l_1200, l_4000, l_99999, l_100000, l_100001, l_100002, l_100006, l_100010, l_252645135, l_858993459, l_1431655765, n_cl, n_lt, n_le, n_eq, n_in, n_add, n_mul, n_sub, n_div, n_mod, n_addneg, n_negl, n_nege, Nat.add_sub_cancel, d_ltT, d_ltF, d_leT, d_leF, d_eqT, d_eqF, ↓reduceIte, Nat.reduceLeDiff, Nat.reduceAdd, Nat.reduceMul, Nat.reduceSub, Nat.reduceLT, Nat.zero_add, Nat.add_zero, not_false_eq_true, pK_32, pK_33, pK_34, pK_35, pK_36, pK_37, pK_38, pK_39, pK_40, pK_41, pK_42, pK_43, pK_44, pR_32_0, pR_32_1, pR_32_2, pR_32_3, pR_32_4, pR_32_5, pR_32_6, pR_32_7, pR_32_8, pR_33_0, pR_33_1, pR_33_2, pR_33_3, pR_36_0, pR_36_1, pR_36_2, pR_36_3, pR_37_0, pR_37_1, pR_37_3, pR_37_4, pR_42_0, pR_42_3, pK_124, pK_125, pK_126, pK_127, pK_128, pK_129, pK_130, pK_131, pK_132, pK_133, pK_134, pR_124_0, pR_126_0, pR_128_0, pR_130_0, pR_134_0, pR_134_1]
      exact hQ I r p_cs_refl
  · simp only [p_sel_no hW hi] at hQ
    simp (disch := omega) only [r7036_0, r7036_1, r7036_2, r7036_5, r7036_5n, r7036_7, r7036_7n, r7036_9, r7036_9n, r7036_12, r7036_13, r7036_14, r7036_17, r7036_20, r7036_21, r7036_22, r7036_23, r7036_26, r7036_29, r7036_32, s_tossAt_no hW hC hi, b_eq0, b_eq1, b_0eq, ite_not, not_true_eq_false, not_false_eq_true, ↓reduceIte, va_rf_some, va_rf_none, cat_int, cat_ref, cat_null, cat_jk, q_cs_nil, q_cs_int, q_cs_ref, q_cs_long, q_tl_some, q_tl_none, nz_0, nz_1, nzn_0, nzn_1, nz_b, true_and, and_true, Nat.reduceLeDiff, Nat.reduceAdd, l_0, l_1, l_2, l_3, l_4, l_5, l_6, l_7, l_8, l_9, l_10, l_11, l_12, l_13, l_14, l_15, l_16, l_17, l_18, l_19, l_20, l_24, l_32, l_40, l_41, l_42, l_43, l_45, l_48, l_57, l_59, l_60, l_61, l_63, l_64, l_80, l_96, l_97, l_99, l_100, l_122, l_160, l_200, l_320, l_640, l_999, l_1000, l_1200, l_4000, l_99999, l_100000, l_100001, l_100002, l_100006, l_100010, l_252645135, l_858993459, l_1431655765, n_cl, n_lt, n_le, n_eq, n_in, n_add, n_mul, n_sub, n_div, n_mod, n_addneg, n_negl, n_nege, Nat.add_sub_cancel, d_ltT, d_ltF, d_leT, d_leF, d_eqT, d_eqF, ↓reduceIte, Nat.reduceLeDiff, Nat.reduceAdd, Nat.reduceMul, Nat.reduceSub, Nat.reduceLT, Nat.zero_add, Nat.add_zero, not_false_eq_true, pK_32, pK_33, pK_34, pK_35, pK_36, pK_37, pK_38, pK_39, pK_40, pK_41, pK_42, pK_43, pK_44, pR_32_0, pR_32_1, pR_32_2, pR_32_3, pR_32_4, pR_32_5, pR_32_6, pR_32_7, pR_32_8, pR_33_0, pR_33_1, pR_33_2, pR_33_3, pR_36_0, pR_36_1, pR_36_2, pR_36_3, pR_37_0, pR_37_1, pR_37_3, pR_37_4, pR_42_0, pR_42_3, pK_124, pK_125, pK_126, pK_127, pK_128, pK_129, pK_130, pK_131, pK_132, pK_133, pK_134, pR_124_0, pR_126_0, pR_128_0, pR_130_0, pR_134_0, pR_134_1]
    exact hQ I r p_cs_refl
end
