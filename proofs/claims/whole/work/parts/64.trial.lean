/-! the stick that is filed only to see -/
theorem q_up_up {α : Type} {f : Nat → Nat → α} {a k : Nat} {v w : α} : q_up (q_up f a k v) a k w = q_up f a k w := by
  funext b j
  unfold q_up
  split <;> rfl
/-- M filed: row 0 lift, 1 drag, 2 weight of the piece p of the stick s -/
def p_fil (M : Nat → Nat → Int32) (s row p : Nat) (v : Int32) : Nat → Nat → Int32 := q_up M (140 + row) (6 * s + p) v
theorem fil_a {M : Nat → Nat → Int32} {s row p a : Nat} {v : Int32} (h : a ≠ 140 + row) : p_fil M s row p v a = M a := q_up_fa h
theorem sim_fil {M M' : Nat → Nat → Int32} {s row p : Nat} {v : Int32} (hr : row < 3) (h : p_sim M M') : p_sim M (p_fil M' s row p v) :=
  ⟨fun a h1 h2 h3 h4 => (fil_a (by omega)).trans (h.1 a h1 h2 h3 h4), fun j h1 h2 => by rw [fil_a (by omega)]; exact h.2 j h1 h2⟩
theorem sim_refl {M : Nat → Nat → Int32} : p_sim M M := ⟨fun _ _ _ _ _ => rfl, fun _ _ _ => rfl⟩
theorem rowM_fil {M : Nat → Nat → Int32} {s row p k : Nat} {v : Int32} (hr : row < 3) : p_rowM (p_fil M s row p v) k = p_row (p_fil M s row p v) k (M 145 k) (M 146 k) false := by
  unfold p_rowM
  rw [fil_a (by omega), fil_a (by omega)]
theorem fa_fil {L k t b u vv row q : Nat} {r : Nat → Nat → Option Nat} {dk : Nat → Nat × Nat} {I M : Nat → Nat → Int32} {w p v : Int32} {mir : Bool} (h : p_fa 45 L r dk I M k w p mir t 69 b u vv) (hr : row < 3) (hq : q < 6) (hp6 : p_pc M (p_si M k) ≤ 6) :
    p_fa 45 L r dk (q_up I (71 + row) q v) (p_fil M (p_si M k) row q v) k w p mir t 69 b u vv := by
  obtain ⟨a1, a2, a3, a4, a5, a6, a7, a8, hto, hsk, hst, hlw⟩ := h
  have ea : ∀ a, a ≠ 140 + row → p_fil M (p_si M k) row q v a = M a := fun a ha => fil_a ha
  have eI : ∀ a, a ≠ 71 + row → q_up I (71 + row) q v a = I a := fun a ha => q_up_fa ha
  have esi : p_si (p_fil M (p_si M k) row q v) k = p_si M k := by
    show (p_fil M (p_si M k) row q v 144 k).toNatClampNeg = (M 144 k).toNatClampNeg
    rw [ea 144 (by omega)]
  have erl : p_rl (p_fil M (p_si M k) row q v) = p_rl M := by unfold p_rl; rw [ea 135 (by omega)]
  have epc : p_pc (p_fil M (p_si M k) row q v) (p_si M k) = p_pc M (p_si M k) := by unfold p_pc; rw [ea 137 (by omega)]
  refine ⟨a1, a2, a3, ?_, ?_, ?_, ?_, ?_, ?_, hsk, ?_, ?_⟩
  · rw [eI 45 (by omega)]; exact a4
  · rw [eI 45 (by omega)]; exact a5
  · rw [eI 45 (by omega), ea 135 (by omega)]; exact a6
  · rw [eI 45 (by omega), ea 135 (by omega)]; exact a7
  · rw [eI 45 (by omega)]; exact a8
  · have ht := hto.1
    unfold p_to at hto ⊢
    rw [eI t (by omega), esi, ea 143 (by omega), ea 145 (by omega), ea 146 (by omega), ea 147 (by omega), ea 148 (by omega), ea 149 (by omega)]
    exact hto
  · rw [esi]
    refine ⟨?_, fun x hx => ?_⟩
    · rw [eI 69 (by omega), ea 137 (by omega)]; exact hst.1
    · rw [epc] at hx
      obtain ⟨y1, y2, y3, y4, y5⟩ := hst.2 x hx
      have g : ∀ (rr : Nat), rr < 3 → I (71 + rr) x = M (140 + rr) (6 * p_si M k + x) → q_up I (71 + row) q v (71 + rr) x = p_fil M (p_si M k) row q v (140 + rr) (6 * p_si M k + x) := fun rr hrr hy => by
        unfold p_fil q_up
        by_cases e : rr = row ∧ x = q
        · rw [if_pos ⟨by omega, e.2⟩, if_pos ⟨by omega, by omega⟩]
        · rw [if_neg (by omega), if_neg (by omega)]; exact hy
      refine ⟨g 0 (by omega) y1, g 1 (by omega) y2, g 2 (by omega) y3, ?_, ?_⟩
      · rw [eI (69 + 5) (by omega), ea 138 (by omega)]; exact y4
      · rw [eI (69 + 6) (by omega), ea 139 (by omega)]; exact y5
  · rw [erl]
    have hb := hlw.1
    unfold p_lw p_at p_cd at hlw ⊢
    rw [eI u (by omega), eI vv (by omega), ea 153 (by omega), ea 154 (by omega)]
    exact hlw
theorem con_fr {I I' M : Nat → Nat → Int32} (h : p_con I M) (h0 : I' 0 = I 0) (h1 : I' 1 = I 1) : p_con I' M := by
  unfold p_con at h ⊢
  rw [h0, h1]
  exact h
section
variable {d c L n : Nat} {Q : Option Value → q_H → Prop} {I M : Nat → Nat → Int32} {r : Nat → Nat → Option Nat} {dk : Nat → Nat × Nat}
theorem cpy6 {f g : Nat → Int32} {p : Nat} (hp : p < 6) : va_cpy f g 0 0 6 p = f p := by
  unfold va_cpy
  rw [if_pos ⟨by omega, by omega⟩]
  congr 1
  omega
theorem q_nw_a {α : Type} {f : Nat → α} {a b : Nat} {v : α} (h : b ≠ a) : q_nw f a v b = f b := if_neg h
theorem q_nw_same {α : Type} {f : Nat → α} {a : Nat} {v : α} : q_nw f a v a = v := if_pos rfl
theorem s_become {a s : Nat} (ha : p_ska a) (h69 : a ≠ 69) (hst : p_stk I M a s) (hp6 : p_pc M s ≤ 6)
    (hQ : ∀ I', (∀ x, ¬(69 ≤ x ∧ x ≤ 75) → I' x = I x) → p_stk I' M 69 s → Q none (p_h L I' r dk n)) :
    q_wp (d + 1) c 5004 0 [.ref 69, .ref a, q_jk] [] (p_h L I r dk n) Q := by
  obtain ⟨k1, k2, k3, k4, k5⟩ := k_st (L := L) (dk := dk) ha
  obtain ⟨r1, r2⟩ := k_sr (r := r) ha
  obtain ⟨w0, v0⟩ := k_row (L := L) (dk := dk) (r := r) ha (show 0 < 5 by omega)
  obtain ⟨w1, v1⟩ := k_row (L := L) (dk := dk) (r := r) ha (show 1 < 5 by omega)
  obtain ⟨w2, v2⟩ := k_row (L := L) (dk := dk) (r := r) ha (show 2 < 5 by omega)
  obtain ⟨w3, v3⟩ := k_row (L := L) (dk := dk) (r := r) ha (show 3 < 5 by omega)
  obtain ⟨w4, v4⟩ := k_row (L := L) (dk := dk) (r := r) ha (show 4 < 5 by omega)
  have ha2 : 80 ≤ a := by rcases ha with rfl | rfl | rfl | rfl | rfl <;> omega
  simp only [Nat.add_assoc, Nat.reduceAdd] at w0 v0 w1 v1 w2 v2 w3 v3 w4 v4
  have nl : ∀ x : Nat, x < 2147483648 → (Int32.ofNat x < Int32.ofNat 0) = False := fun x hx => by rw [n_lt hx (by omega)]; exact eq_false (by omega)
  simp (disch := omega) only [r5004_0, r5004_1, r5004_1n, r5004_2, r5004_5, r5004_8, r5004_9, r5004_10, r5004_11, r5004_12, r5004_15, r5004_15n, r5004_16, r5004_19, r5004_20, r5004_21, r5004_22, r5004_23, r5004_26, r5004_27, r5004_28, r5004_29, r5004_31, r5004_34, r5004_37, r5004_40, nl, va_rf_some, va_rf_none, cat_int, cat_ref, cat_null, cat_jk, q_cs_nil, q_cs_int, q_cs_ref, q_cs_long, q_tl_some, q_tl_none, nz_0, nz_1, nzn_0, nzn_1, nz_b, true_and, and_true, Nat.reduceLeDiff, Nat.reduceAdd, l_0, l_1, l_2, l_3, l_4, l_5, l_6, l_7, l_8, l_9, l_10, l_11, l_12, l_13, l_14, l_15, l_16, l_17, l_18, l_19, l_20, l_24, l_32, l_40, l_41, l_42, l_43, l_45, l_48, l_57, l_59, l_60, l_61, l_63, l_64, l_80, l_96, l_97, l_99, l_100, l_122, l_160, l_200, l_320, l_640, l_999, l_1000, l_1200, l_4000, l_99999, l_100000, l_100001, l_100002, l_100006, l_100010, l_252645135, l_858993459, l_1431655765, n_cl, n_lt, n_le, n_eq, n_in, n_add, n_mul, n_sub, n_div, n_mod, n_addneg, n_negl, n_nege, Nat.add_sub_cancel, d_ltT, d_ltF, d_leT, d_leF, d_eqT, d_eqF, ↓reduceIte, Nat.reduceLeDiff, Nat.reduceAdd, Nat.reduceMul, Nat.reduceSub, Nat.reduceLT, Nat.zero_add, Nat.add_zero, not_false_eq_true, pK_69, pK_70, pK_71, pK_72, pK_73, pK_74, pK_75, pK_76, pK_77, pK_78, pK_79, pK_80, pK_81, pK_82, pK_83, pK_84, pK_85, pK_86, pK_87, pK_88, pK_89, pK_90, pK_91, pK_92, pK_93, pK_94, pK_95, pK_96, pK_97, pK_98, pK_99, pK_100, pK_101, pK_102, pK_103, pK_104, pK_105, pK_106, pK_107, pK_108, pK_109, pK_110, pK_111, pK_112, pK_113, pK_114, pK_115, pK_116, pK_117, pK_118, pK_119, pK_120, pK_121, pK_122, pK_123, pR_69_1, pR_69_2, pR_70_0, pR_70_1, pR_70_2, pR_70_3, pR_70_4, pR_76_0, pR_76_1, pR_76_2, pR_80_1, pR_80_2, pR_81_0, pR_81_1, pR_81_2, pR_81_3, pR_81_4, pR_87_0, pR_87_1, pR_87_2, pR_91_1, pR_91_2, pR_92_0, pR_92_1, pR_92_2, pR_92_3, pR_92_4, pR_98_0, pR_98_1, pR_98_2, pR_102_1, pR_102_2, pR_103_0, pR_103_1, pR_103_2, pR_103_3, pR_103_4, pR_109_0, pR_109_1, pR_109_2, pR_113_1, pR_113_2, pR_114_0, pR_114_1, pR_114_2, pR_114_3, pR_114_4, pR_120_0, pR_120_1, pR_120_2, k1, k2, k4, k5, r1, w0, v0, w1, v1, w2, v2, w3, v3, w4, v4, q_up_a]
  refine hQ _ (fun x hx => ?_) ⟨?_, fun p hp => ?_⟩
  · simp (disch := omega) only [q_nw_a, q_up_fa]
  · simp (disch := omega) only [q_nw_a, q_up_same]
    exact hst.1
  · obtain ⟨y1, y2, y3, y4, y5⟩ := hst.2 p hp
    have hp' : p < 6 := by omega
    refine ⟨?_, ?_, ?_, ?_, ?_⟩ <;> simp (disch := omega) only [q_nw_a, q_nw_same, Nat.reduceAdd, cpy6 hp', q_up_fa] <;> assumption
/-- aimed with the trial stick, filed as M' -/
def p_tri (L : Nat) (r : Nat → Nat → Option Nat) (dk : Nat → Nat × Nat) (I M' : Nat → Nat → Int32) (k : Nat) (w p : Int32) (t b u v : Nat) : Prop :=
  p_con I M' ∧ p_fa 45 L r dk I M' k w p false t 69 b u v
theorem s_aimTrial (hW : p_wf M) (hC : p_CR L r dk n I M) {k t : Nat} (hk : k < p_tn M) (ht : r 34 k = some t) (hto : p_to r dk I M k t)
    (hQ : ∀ I' r' b u v, p_cs r I r' I' → p_tri L r' dk I' M k (M 145 k) (M 146 k) t b u v → Q none (p_h L I' r' dk n)) :
    q_wp (d + 3) c 7057 0 [.ref 32, .ref t] [] (p_h L I r dk n) Q := by
  have hs := wf_si hW hk
  have hsk : p_ska (80 + 11 * p_si M k) := by unfold p_ska; omega
  have kt : p_K L dk t = (6, 0) := (p_K_dyn hto.1).trans hto.2.1
  have h32 : 32 ≤ t := by have := hto.1; omega
  simp (disch := omega) only [r7057_0, r7057_1, r7057_2, r7057_5, r7057_5n, r7057_6, va_rf_some, va_rf_none, cat_int, cat_ref, cat_null, cat_jk, q_cs_nil, q_cs_int, q_cs_ref, q_cs_long, q_tl_some, q_tl_none, nz_0, nz_1, nzn_0, nzn_1, nz_b, true_and, and_true, Nat.reduceLeDiff, Nat.reduceAdd, l_0, l_1, l_2, l_3, l_4, l_5, l_6, l_7, l_8, l_9, l_10, l_11, l_12, l_13, l_14, l_15, l_16, l_17, l_18, l_19, l_20, l_24, l_32, l_40, l_41, l_42, l_43, l_45, l_48, l_57, l_59, l_60, l_61, l_63, l_64, l_80, l_96, l_97, l_99, l_100, l_122, l_160, l_200, l_320, l_640, l_999, l_1000, l_1200, l_4000, l_99999, l_100000, l_100001, l_100002, l_100006, l_100010, l_252645135, l_858993459, l_1431655765, n_cl, n_lt, n_le, n_eq, n_in, n_add, n_mul, n_sub, n_div, n_mod, n_addneg, n_negl, n_nege, Nat.add_sub_cancel, d_ltT, d_ltF, d_leT, d_leF, d_eqT, d_eqF, ↓reduceIte, Nat.reduceLeDiff, Nat.reduceAdd, Nat.reduceMul, Nat.reduceSub, Nat.reduceLT, Nat.zero_add, Nat.add_zero, not_false_eq_true, pK_32, pK_33, pK_34, pK_35, pK_36, pK_37, pK_38, pK_39, pK_40, pK_41, pK_42, pK_43, pK_44, pR_32_0, pR_32_1, pR_32_2, pR_32_3, pR_32_4, pR_32_5, pR_32_6, pR_32_7, pR_32_8, pR_33_0, pR_33_1, pR_33_2, pR_33_3, pR_36_0, pR_36_1, pR_36_2, pR_36_3, pR_37_0, pR_37_1, pR_37_3, pR_37_4, pR_42_0, pR_42_3, pK_124, pK_125, pK_126, pK_127, pK_128, pK_129, pK_130, pK_131, pK_132, pK_133, pK_134, pR_124_0, pR_126_0, pR_128_0, pR_130_0, pR_134_0, pR_134_1]
  refine s_aim hW hC (.inl rfl) hk ht hto fun I1 r1 b u v h1 h2 h3 h4 => ?_
  have et : p_R r1 t 1 = some (80 + 11 * p_si M k) := (p_R_dyn hto.1).trans ((h3.2 t 1 (by have := hto.1; omega)).trans hto.2.2.2.2.2.2.2.2.2)
  simp (disch := omega) only [q_tl_none, r7057_9, r7057_10, r7057_13, r7057_13n, r7057_14, r7057_17, et, kt, h32, va_rf_some, va_rf_none, cat_int, cat_ref, cat_null, cat_jk, q_cs_nil, q_cs_int, q_cs_ref, q_cs_long, q_tl_some, q_tl_none, nz_0, nz_1, nzn_0, nzn_1, nz_b, true_and, and_true, Nat.reduceLeDiff, Nat.reduceAdd, l_0, l_1, l_2, l_3, l_4, l_5, l_6, l_7, l_8, l_9, l_10, l_11, l_12, l_13, l_14, l_15, l_16, l_17, l_18, l_19, l_20, l_24, l_32, l_40, l_41, l_42, l_43, l_45, l_48, l_57, l_59, l_60, l_61, l_63, l_64, l_80, l_96, l_97, l_99, l_100, l_122, l_160, l_200, l_320, l_640, l_999, l_1000, l_1200, l_4000, l_99999, l_100000, l_100001, l_100002, l_100006, l_100010, l_252645135, l_858993459, l_1431655765, n_cl, n_lt, n_le, n_eq, n_in, n_add, n_mul, n_sub, n_div, n_mod, n_addneg, n_negl, n_nege, Nat.add_sub_cancel, d_ltT, d_ltF, d_leT, d_leF, d_eqT, d_eqF, ↓reduceIte, Nat.reduceLeDiff, Nat.reduceAdd, Nat.reduceMul, Nat.reduceSub, Nat.reduceLT, Nat.zero_add, Nat.add_zero, not_false_eq_true, pK_32, pK_33, pK_34, pK_35, pK_36, pK_37, pK_38, pK_39, pK_40, pK_41, pK_42, pK_43, pK_44, pR_32_0, pR_32_1, pR_32_2, pR_32_3, pR_32_4, pR_32_5, pR_32_6, pR_32_7, pR_32_8, pR_33_0, pR_33_1, pR_33_2, pR_33_3, pR_36_0, pR_36_1, pR_36_2, pR_36_3, pR_37_0, pR_37_1, pR_37_3, pR_37_4, pR_42_0, pR_42_3, pK_124, pK_125, pK_126, pK_127, pK_128, pK_129, pK_130, pK_131, pK_132, pK_133, pK_134, pR_124_0, pR_126_0, pR_128_0, pR_130_0, pR_134_0, pR_134_1, pK_69]
  refine s_become hsk (by omega) (((p_CR_cs hC h3).2.1 _ hs).1) ((p_pc_eq hW hs).2) fun I2 g1 g2 => ?_
  have hpu : q_up (p_R r1) 45 3 (some 69) = p_R (q_up r1 45 3 (some 69)) := pRu (.inl rfl) (by omega)
  simp (disch := omega) only [q_tl_none, r7057_20, r7057_21, r7057_24, r7057_25, r7057_28, r7057_31, hpu, va_rf_some, va_rf_none, cat_int, cat_ref, cat_null, cat_jk, q_cs_nil, q_cs_int, q_cs_ref, q_cs_long, q_tl_some, q_tl_none, nz_0, nz_1, nzn_0, nzn_1, nz_b, true_and, and_true, Nat.reduceLeDiff, Nat.reduceAdd, l_0, l_1, l_2, l_3, l_4, l_5, l_6, l_7, l_8, l_9, l_10, l_11, l_12, l_13, l_14, l_15, l_16, l_17, l_18, l_19, l_20, l_24, l_32, l_40, l_41, l_42, l_43, l_45, l_48, l_57, l_59, l_60, l_61, l_63, l_64, l_80, l_96, l_97, l_99, l_100, l_122, l_160, l_200, l_320, l_640, l_999, l_1000, l_1200, l_4000, l_99999, l_100000, l_100001, l_100002, l_100006, l_100010, l_252645135, l_858993459, l_1431655765, n_cl, n_lt, n_le, n_eq, n_in, n_add, n_mul, n_sub, n_div, n_mod, n_addneg, n_negl, n_nege, Nat.add_sub_cancel, d_ltT, d_ltF, d_leT, d_leF, d_eqT, d_eqF, ↓reduceIte, Nat.reduceLeDiff, Nat.reduceAdd, Nat.reduceMul, Nat.reduceSub, Nat.reduceLT, Nat.zero_add, Nat.add_zero, not_false_eq_true, pK_32, pK_33, pK_34, pK_35, pK_36, pK_37, pK_38, pK_39, pK_40, pK_41, pK_42, pK_43, pK_44, pR_32_0, pR_32_1, pR_32_2, pR_32_3, pR_32_4, pR_32_5, pR_32_6, pR_32_7, pR_32_8, pR_33_0, pR_33_1, pR_33_2, pR_33_3, pR_36_0, pR_36_1, pR_36_2, pR_36_3, pR_37_0, pR_37_1, pR_37_3, pR_37_4, pR_42_0, pR_42_3, pK_124, pK_125, pK_126, pK_127, pK_128, pK_129, pK_130, pK_131, pK_132, pK_133, pK_134, pR_124_0, pR_126_0, pR_128_0, pR_130_0, pR_134_0, pR_134_1, pK_45]
  have e0 := g1 0 (by omega)
  have e1 := g1 1 (by omega)
  have hcs : p_cs r I (q_up r1 45 3 (some 69)) I2 := p_cs_trans h3 ⟨fun a ha => g1 a (by omega), fun a k' ha => by
    by_cases e : a = 45
    · subst e; exact q_up_k (by omega)
    · exact q_up_a e⟩
  refine hQ I2 _ b u v hcs ⟨con_fr (p_CR_cs hC h3).2.2.2.2.2.2.2.1 e0 e1, ?_⟩
  obtain ⟨a1, a2, a3, a4, a5, a6, a7, a8, hto2, -, -, hlw⟩ := h4
  refine ⟨(q_up_k (by decide)).trans a1, q_up_same, (q_up_k (by decide)).trans a3, ?_, ?_, ?_, ?_, ?_, ?_, .inl rfl, g2, ?_⟩
  · rw [g1 45 (by omega)]; exact a4
  · rw [g1 45 (by omega)]; exact a5
  · rw [g1 45 (by omega)]; exact a6
  · rw [g1 45 (by omega)]; exact a7
  · rw [g1 45 (by omega)]; exact a8
  · have := hto2.1
    unfold p_to at hto2 ⊢
    rw [g1 t (by omega), q_up_a (by omega)]
    exact hto2
  · have hl := p_lw_u (k := 3) (x := some 69) hlw (show 45 ≤ 45 ∧ 45 ≤ 79 by omega)
    have hb := hlw.1
    unfold p_lw at hl ⊢
    rw [g1 u (by omega), g1 v (by omega)]
    exact hl
/-- filed: a row of the trial, and of M' -/
theorem tri_fil {I M' : Nat → Nat → Int32} {k t b u vv row q : Nat} {w p v : Int32} (h : p_tri L r dk I M' k w p t b u vv) (hr : row < 3) (hq : q < 6) (hp6 : p_pc M' (p_si M' k) ≤ 6) :
    p_tri L r dk (q_up I (71 + row) q v) (p_fil M' (p_si M' k) row q v) k w p t b u vv :=
  ⟨con_sim (con_fr h.1 (q_up_fa (by omega)) (q_up_fa (by omega))) (sim_fil hr sim_refl), fa_fil h.2 hr hq hp6⟩
theorem si_sim {M' : Nat → Nat → Int32} {k : Nat} (h : p_sim M M') : p_si M' k = p_si M k := by unfold p_si; rw [h.1 144 (by decide) (by decide) (by decide) (by decide)]
theorem pc_sim {M' : Nat → Nat → Int32} {s : Nat} (h : p_sim M M') : p_pc M' s = p_pc M s := by unfold p_pc; rw [h.1 137 (by decide) (by decide) (by decide) (by decide)]
theorem m_sets {k row : Nat} {v : Int32} (hr : row < 3) (hk : k < 24) : q_wp (d + 1) c 8063 0 [.ref 135, .int (Int32.ofNat k), .int (Int32.ofNat row), .int v] [] (p_h L I r dk n) Q = Q none (p_h L (q_up I (140 + row) k v) r dk n) := by
  have : row = 0 ∨ row = 1 ∨ row = 2 := by omega
  rcases this with rfl | rfl | rfl <;> simp (disch := omega) only [r8063_0, r8063_1, r8063_4, r8063_5, r8063_8, r8063_9, r8063_10, r8063_11, r8063_14, r8063_15, r8063_16, r8063_19, r8063_20, r8063_23, r8063_24, r8063_25, r8063_26, r8063_29, r8063_30, r8063_33, r8063_34, r8063_35, r8063_36, va_rf_some, va_rf_none, cat_int, cat_ref, cat_null, cat_jk, q_cs_nil, q_cs_int, q_cs_ref, q_cs_long, q_tl_some, q_tl_none, nz_0, nz_1, nzn_0, nzn_1, nz_b, true_and, and_true, Nat.reduceLeDiff, Nat.reduceAdd, l_0, l_1, l_2, l_3, l_4, l_5, l_6, l_7, l_8, l_9, l_10, l_11, l_12, l_13, l_14, l_15, l_16, l_17, l_18, l_19, l_20, l_24, l_32, l_40, l_41, l_42, l_43, l_45, l_48, l_57, l_59, l_60, l_61, l_63, l_64, l_80, l_96, l_97, l_99, l_100, l_122, l_160, l_200, l_320, l_640, l_999, l_1000, l_1200, l_4000, l_99999, l_100000, l_100001, l_100002, l_100006, l_100010, l_252645135, l_858993459, l_1431655765, n_cl, n_lt, n_le, n_eq, n_in, n_add, n_mul, n_sub, n_div, n_mod, n_addneg, n_negl, n_nege, Nat.add_sub_cancel, d_ltT, d_ltF, d_leT, d_leF, d_eqT, d_eqF, ↓reduceIte, Nat.reduceLeDiff, Nat.reduceAdd, Nat.reduceMul, Nat.reduceSub, Nat.reduceLT, Nat.zero_add, Nat.add_zero, not_false_eq_true, pK_135, pK_136, pK_137, pK_138, pK_139, pK_140, pK_141, pK_142, pK_143, pK_144, pK_145, pK_146, pK_147, pK_148, pK_149, pK_150, pK_151, pK_152, pK_153, pK_154, pK_155, pK_156, pK_157, pK_158, pK_159, pK_160, pK_161, pK_162, pK_163, pK_164, pK_165, pK_166, pK_167, pK_168, pK_169, pK_170, pK_171, pK_172, pK_173, pK_174, pK_175, pK_176, pK_177, pK_178, pR_135_0, pR_135_2, pR_135_3, pR_135_4, pR_135_5, pR_135_6, pR_135_7, pR_135_11, pR_135_12, pR_135_13, pR_135_14, pR_135_15, pR_135_16, pR_135_17, pR_135_19, pR_135_20, pR_135_21, pR_135_23, pR_135_24, pR_135_33, pR_135_34, pR_135_35, pR_135_36, pR_135_37, pR_135_38, pR_135_39, pR_135_40, pR_135_41, pR_135_46, pR_135_47, pR_135_51, pR_135_52, pR_135_53, pR_135_54, pR_135_55, pR_135_56, pR_135_57, pR_135_58, pR_135_59, pR_135_61, pR_135_62, pR_135_63, pR_135_64]
/-- as p_ms, but for lifts, drags and weights -/
def p_msf (I I' : Nat → Nat → Int32) : Prop := (∀ a, a ≠ 135 → ¬(140 ≤ a ∧ a ≤ 142) → ¬(165 ≤ a ∧ a ≤ 178) → I' a = I a) ∧ ∀ k, k < 42 → I' 135 k = I 135 k
theorem MR_fil {s row p : Nat} {v : Int32} (hr : row < 3) (h : p_MR I M) : p_MR (q_up I (140 + row) (6 * s + p) v) (p_fil M s row p v) := by
  refine ⟨fun a h1 h2 => ?_, fun k hk => ?_⟩
  · unfold p_fil
    by_cases e : a = 140 + row
    · subst e
      funext x
      unfold q_up
      rw [h.1 (140 + row) h1 h2]
    · rw [q_up_fa e, q_up_fa e]; exact h.1 a h1 h2
  · rw [q_up_a (by omega), fil_a (by omega)]; exact h.2 k hk
theorem fil_back {s row p : Nat} {v : Int32} : p_fil (p_fil M s row p v) s row p (M (140 + row) (6 * s + p)) = M := by
  unfold p_fil
  rw [q_up_up, q_up_id rfl]
theorem m_wouldBe {k s row p : Nat} {v x : Int32} {M' : Nat → Nat → Int32} (hW : p_wf M) (hk : k < p_tn M) (hsim : p_sim M M') (h26 : M' 135 26 = M 135 26) (hM : p_MR I M') (hr : row < 3) (hs : s < 4) (hp : p < 6)
    (hQ : ∀ I', p_MR I' M' → (∀ a, a ≠ 135 → ¬(140 ≤ a ∧ a ≤ 142) → ¬(165 ≤ a ∧ a ≤ 178) → I' a = I a) → p_md I' (p_rowM (p_fil M' s row p v) k) → Q (some (.int (if p_bk (p_rowM (p_fil M' s row p v) k) x then 1 else 0))) (p_h L I' r dk n)) :
    q_wp (d + 7) c 8062 0 [.ref 135, .int (Int32.ofNat k), .int (Int32.ofNat (6 * s + p)), .int (Int32.ofNat row), .int v, .int x, q_jk] [] (p_h L I r dk n) Q := by
  have h8 := (p_tn_eq hW).2
  have hrow : row = 0 ∨ row = 1 ∨ row = 2 := by omega
  have h140 := hM.1 (140 + row) (by omega) (by omega)
  have w0 : I (140 + row) (6 * s + p) = M' (140 + row) (6 * s + p) := by rw [h140]
  have hset : ∀ (d' c' : Nat) (Q' : Option Value → q_H → Prop), _ := fun d' c' Q' => m_sets (d := d') (c := c') (Q := Q') (L := L) (n := n) (I := I) (r := r) (dk := dk) (v := v) hr (show 6 * s + p < 24 by omega)
  have hM1 := MR_fil (s := s) (p := p) (v := v) hr hM
  have hy := fy_sim (wf_fy hW hk (wf_way hW hk).1 (wf_way hW hk).2) (sim_fil (s := s) (p := p) (v := v) hr hsim) ((by rw [fil_a (by omega)] : p_fil M' s row p v 135 26 = M' 135 26).trans h26)
  have e145 : q_up I (140 + row) (6 * s + p) v 145 = M 145 := by rw [q_up_fa (by omega), hM.1 145 (by decide) (by decide)]; exact hsim.1 145 (by decide) (by decide) (by decide) (by decide)
  have e146 : q_up I (140 + row) (6 * s + p) v 146 = M 146 := by rw [q_up_fa (by omega), hM.1 146 (by decide) (by decide)]; exact hsim.1 146 (by decide) (by decide) (by decide) (by decide)
  have go : ∀ c' (Q' : Option Value → q_H → Prop), (∀ I', p_fl (q_up I (140 + row) (6 * s + p) v) (p_rowM (p_fil M' s row p v) k) (p_last (p_rowM (p_fil M' s row p v) k)) I' → Q' none (p_h L I' r dk n)) → q_wp (d + 6) c' 8039 0 [.ref 135, .int (Int32.ofNat k)] [] (p_h L (q_up I (140 + row) (6 * s + p) v) r dk n) Q' := fun c' Q' hq => by
    simp (disch := omega) only [r8039_0, r8039_1, r8039_2, r8039_3, r8039_6, r8039_7, r8039_8, r8039_9, r8039_12, r8039_13, r8039_14, r8039_15, va_rf_some, va_rf_none, cat_int, cat_ref, cat_null, cat_jk, q_cs_nil, q_cs_int, q_cs_ref, q_cs_long, q_tl_some, q_tl_none, nz_0, nz_1, nzn_0, nzn_1, nz_b, true_and, and_true, Nat.reduceLeDiff, Nat.reduceAdd, l_0, l_1, l_2, l_3, l_4, l_5, l_6, l_7, l_8, l_9, l_10, l_11, l_12, l_13, l_14, l_15, l_16, l_17, l_18, l_19, l_20, l_24, l_32, l_40, l_41, l_42, l_43, l_45, l_48, l_57, l_59, l_60, l_61, l_63, l_64, l_80, l_96, l_97, l_99, l_100, l_122, l_160, l_200, l_320, l_640, l_999, l_1000, l_1200, l_4000, l_99999, l_100000, l_100001, l_100002, l_100006, l_100010, l_252645135, l_858993459, l_1431655765, n_cl, n_lt, n_le, n_eq, n_in, n_add, n_mul, n_sub, n_div, n_mod, n_addneg, n_negl, n_nege, Nat.add_sub_cancel, d_ltT, d_ltF, d_leT, d_leF, d_eqT, d_eqF, ↓reduceIte, Nat.reduceLeDiff, Nat.reduceAdd, Nat.reduceMul, Nat.reduceSub, Nat.reduceLT, Nat.zero_add, Nat.add_zero, not_false_eq_true, pK_135, pK_136, pK_137, pK_138, pK_139, pK_140, pK_141, pK_142, pK_143, pK_144, pK_145, pK_146, pK_147, pK_148, pK_149, pK_150, pK_151, pK_152, pK_153, pK_154, pK_155, pK_156, pK_157, pK_158, pK_159, pK_160, pK_161, pK_162, pK_163, pK_164, pK_165, pK_166, pK_167, pK_168, pK_169, pK_170, pK_171, pK_172, pK_173, pK_174, pK_175, pK_176, pK_177, pK_178, pR_135_0, pR_135_2, pR_135_3, pR_135_4, pR_135_5, pR_135_6, pR_135_7, pR_135_11, pR_135_12, pR_135_13, pR_135_14, pR_135_15, pR_135_16, pR_135_17, pR_135_19, pR_135_20, pR_135_21, pR_135_23, pR_135_24, pR_135_33, pR_135_34, pR_135_35, pR_135_36, pR_135_37, pR_135_38, pR_135_39, pR_135_40, pR_135_41, pR_135_46, pR_135_47, pR_135_51, pR_135_52, pR_135_53, pR_135_54, pR_135_55, pR_135_56, pR_135_57, pR_135_58, pR_135_59, pR_135_61, pR_135_62, pR_135_63, pR_135_64, e145, e146]
    refine m_goes (mir := false) hM1 hy.1 hy.2.1 hy.2.2.2.1 hy.2.2.2.2 fun I' hI' => ?_
    simp only [q_tl_none, r8039_18]
    refine hq I' ?_
    have erow : p_rowM (p_fil M' s row p v) k = p_row (p_fil M' s row p v) k (M 145 k) (M 146 k) false := by
      rw [rowM_fil hr, hsim.1 145 (by decide) (by decide) (by decide) (by decide), hsim.1 146 (by decide) (by decide) (by decide) (by decide)]
    rw [erow]
    exact hI'
  have fin : ∀ I1, p_fl (q_up I (140 + row) (6 * s + p) v) (p_rowM (p_fil M' s row p v) k) (p_last (p_rowM (p_fil M' s row p v) k)) I1 → p_MR (q_up I1 (140 + row) (6 * s + p) (M' (140 + row) (6 * s + p))) M' ∧ (∀ a, a ≠ 135 → ¬(140 ≤ a ∧ a ≤ 142) → ¬(165 ≤ a ∧ a ≤ 178) → q_up I1 (140 + row) (6 * s + p) (M' (140 + row) (6 * s + p)) a = I a) ∧ p_md (q_up I1 (140 + row) (6 * s + p) (M' (140 + row) (6 * s + p))) (p_rowM (p_fil M' s row p v) k) := fun I1 h1 => by
    refine ⟨?_, fun a a1 a2 a3 => ?_, ?_, fun j hj cc hc => ?_⟩
    · have := MR_fil (s := s) (p := p) (v := M' (140 + row) (6 * s + p)) hr (p_fl_MR h1 hM1)
      rw [fil_back] at this
      exact this
    · rw [q_up_fa (by omega), h1.1 a a1 (by omega), q_up_fa (by omega)]
    · rw [q_up_a (by omega)]; exact h1.2.2.1
    · rw [q_up_a (by omega)]; exact h1.2.2.2 j hj cc hc
  rcases hrow with rfl | rfl | rfl
  · simp (disch := omega) only [Nat.add_zero] at hset w0 go fin
    simp (disch := omega) only [r8062_0, r8062_1, r8062_4, r8062_5, r8062_8, r8062_9, r8062_10, r8062_13, r8062_14, r8062_15, r8062_18, r8062_19, r8062_22, r8062_23, r8062_24, r8062_27, r8062_28, r8062_31, r8062_32, r8062_33, r8062_35, r8062_36, r8062_37, r8062_38, r8062_40, r8062_43, r8062_44, r8062_45, hset, q_tl_none, w0, va_rf_some, va_rf_none, cat_int, cat_ref, cat_null, cat_jk, q_cs_nil, q_cs_int, q_cs_ref, q_cs_long, q_tl_some, q_tl_none, nz_0, nz_1, nzn_0, nzn_1, nz_b, true_and, and_true, Nat.reduceLeDiff, Nat.reduceAdd, l_0, l_1, l_2, l_3, l_4, l_5, l_6, l_7, l_8, l_9, l_10, l_11, l_12, l_13, l_14, l_15, l_16, l_17, l_18, l_19, l_20, l_24, l_32, l_40, l_41, l_42, l_43, l_45, l_48, l_57, l_59, l_60, l_61, l_63, l_64, l_80, l_96, l_97, l_99, l_100, l_122, l_160, l_200, l_320, l_640, l_999, l_1000, l_1200, l_4000, l_99999, l_100000, l_100001, l_100002, l_100006, l_100010, l_252645135, l_858993459, l_1431655765, n_cl, n_lt, n_le, n_eq, n_in, n_add, n_mul, n_sub, n_div, n_mod, n_addneg, n_negl, n_nege, Nat.add_sub_cancel, d_ltT, d_ltF, d_leT, d_leF, d_eqT, d_eqF, ↓reduceIte, Nat.reduceLeDiff, Nat.reduceAdd, Nat.reduceMul, Nat.reduceSub, Nat.reduceLT, Nat.zero_add, Nat.add_zero, not_false_eq_true, pK_135, pK_136, pK_137, pK_138, pK_139, pK_140, pK_141, pK_142, pK_143, pK_144, pK_145, pK_146, pK_147, pK_148, pK_149, pK_150, pK_151, pK_152, pK_153, pK_154, pK_155, pK_156, pK_157, pK_158, pK_159, pK_160, pK_161, pK_162, pK_163, pK_164, pK_165, pK_166, pK_167, pK_168, pK_169, pK_170, pK_171, pK_172, pK_173, pK_174, pK_175, pK_176, pK_177, pK_178, pR_135_0, pR_135_2, pR_135_3, pR_135_4, pR_135_5, pR_135_6, pR_135_7, pR_135_11, pR_135_12, pR_135_13, pR_135_14, pR_135_15, pR_135_16, pR_135_17, pR_135_19, pR_135_20, pR_135_21, pR_135_23, pR_135_24, pR_135_33, pR_135_34, pR_135_35, pR_135_36, pR_135_37, pR_135_38, pR_135_39, pR_135_40, pR_135_41, pR_135_46, pR_135_47, pR_135_51, pR_135_52, pR_135_53, pR_135_54, pR_135_55, pR_135_56, pR_135_57, pR_135_58, pR_135_59, pR_135_61, pR_135_62, pR_135_63, pR_135_64]
    refine go _ _ fun I1 h1 => ?_
    obtain ⟨f1, f2, f3⟩ := fin I1 h1
    simp (disch := omega) only [q_tl_none, r8062_48, r8062_49, r8062_50, r8062_51, r8062_53, r8062_56, r8062_57, r8062_59, r8062_62, m_sets, Nat.add_zero, m_isBack f3, nzn_b, nz_b, va_rf_some, va_rf_none, cat_int, cat_ref, cat_null, cat_jk, q_cs_nil, q_cs_int, q_cs_ref, q_cs_long, q_tl_some, q_tl_none, nz_0, nz_1, nzn_0, nzn_1, nz_b, true_and, and_true, Nat.reduceLeDiff, Nat.reduceAdd, l_0, l_1, l_2, l_3, l_4, l_5, l_6, l_7, l_8, l_9, l_10, l_11, l_12, l_13, l_14, l_15, l_16, l_17, l_18, l_19, l_20, l_24, l_32, l_40, l_41, l_42, l_43, l_45, l_48, l_57, l_59, l_60, l_61, l_63, l_64, l_80, l_96, l_97, l_99, l_100, l_122, l_160, l_200, l_320, l_640, l_999, l_1000, l_1200, l_4000, l_99999, l_100000, l_100001, l_100002, l_100006, l_100010, l_252645135, l_858993459, l_1431655765, n_cl, n_lt, n_le, n_eq, n_in, n_add, n_mul, n_sub, n_div, n_mod, n_addneg, n_negl, n_nege, Nat.add_sub_cancel, d_ltT, d_ltF, d_leT, d_leF, d_eqT, d_eqF, ↓reduceIte, Nat.reduceLeDiff, Nat.reduceAdd, Nat.reduceMul, Nat.reduceSub, Nat.reduceLT, Nat.zero_add, Nat.add_zero, not_false_eq_true, pK_135, pK_136, pK_137, pK_138, pK_139, pK_140, pK_141, pK_142, pK_143, pK_144, pK_145, pK_146, pK_147, pK_148, pK_149, pK_150, pK_151, pK_152, pK_153, pK_154, pK_155, pK_156, pK_157, pK_158, pK_159, pK_160, pK_161, pK_162, pK_163, pK_164, pK_165, pK_166, pK_167, pK_168, pK_169, pK_170, pK_171, pK_172, pK_173, pK_174, pK_175, pK_176, pK_177, pK_178, pR_135_0, pR_135_2, pR_135_3, pR_135_4, pR_135_5, pR_135_6, pR_135_7, pR_135_11, pR_135_12, pR_135_13, pR_135_14, pR_135_15, pR_135_16, pR_135_17, pR_135_19, pR_135_20, pR_135_21, pR_135_23, pR_135_24, pR_135_33, pR_135_34, pR_135_35, pR_135_36, pR_135_37, pR_135_38, pR_135_39, pR_135_40, pR_135_41, pR_135_46, pR_135_47, pR_135_51, pR_135_52, pR_135_53, pR_135_54, pR_135_55, pR_135_56, pR_135_57, pR_135_58, pR_135_59, pR_135_61, pR_135_62, pR_135_63, pR_135_64]
    exact hQ _ f1 f2 f3
  · simp (disch := omega) only [Nat.reduceAdd] at hset w0 go fin
    simp (disch := omega) only [r8062_0, r8062_1, r8062_4, r8062_5, r8062_8, r8062_9, r8062_10, r8062_13, r8062_14, r8062_15, r8062_18, r8062_19, r8062_22, r8062_23, r8062_24, r8062_27, r8062_28, r8062_31, r8062_32, r8062_33, r8062_35, r8062_36, r8062_37, r8062_38, r8062_40, r8062_43, r8062_44, r8062_45, hset, q_tl_none, w0, va_rf_some, va_rf_none, cat_int, cat_ref, cat_null, cat_jk, q_cs_nil, q_cs_int, q_cs_ref, q_cs_long, q_tl_some, q_tl_none, nz_0, nz_1, nzn_0, nzn_1, nz_b, true_and, and_true, Nat.reduceLeDiff, Nat.reduceAdd, l_0, l_1, l_2, l_3, l_4, l_5, l_6, l_7, l_8, l_9, l_10, l_11, l_12, l_13, l_14, l_15, l_16, l_17, l_18, l_19, l_20, l_24, l_32, l_40, l_41, l_42, l_43, l_45, l_48, l_57, l_59, l_60, l_61, l_63, l_64, l_80, l_96, l_97, l_99, l_100, l_122, l_160, l_200, l_320, l_640, l_999, l_1000, l_1200, l_4000, l_99999, l_100000, l_100001, l_100002, l_100006, l_100010, l_252645135, l_858993459, l_1431655765, n_cl, n_lt, n_le, n_eq, n_in, n_add, n_mul, n_sub, n_div, n_mod, n_addneg, n_negl, n_nege, Nat.add_sub_cancel, d_ltT, d_ltF, d_leT, d_leF, d_eqT, d_eqF, ↓reduceIte, Nat.reduceLeDiff, Nat.reduceAdd, Nat.reduceMul, Nat.reduceSub, Nat.reduceLT, Nat.zero_add, Nat.add_zero, not_false_eq_true, pK_135, pK_136, pK_137, pK_138, pK_139, pK_140, pK_141, pK_142, pK_143, pK_144, pK_145, pK_146, pK_147, pK_148, pK_149, pK_150, pK_151, pK_152, pK_153, pK_154, pK_155, pK_156, pK_157, pK_158, pK_159, pK_160, pK_161, pK_162, pK_163, pK_164, pK_165, pK_166, pK_167, pK_168, pK_169, pK_170, pK_171, pK_172, pK_173, pK_174, pK_175, pK_176, pK_177, pK_178, pR_135_0, pR_135_2, pR_135_3, pR_135_4, pR_135_5, pR_135_6, pR_135_7, pR_135_11, pR_135_12, pR_135_13, pR_135_14, pR_135_15, pR_135_16, pR_135_17, pR_135_19, pR_135_20, pR_135_21, pR_135_23, pR_135_24, pR_135_33, pR_135_34, pR_135_35, pR_135_36, pR_135_37, pR_135_38, pR_135_39, pR_135_40, pR_135_41, pR_135_46, pR_135_47, pR_135_51, pR_135_52, pR_135_53, pR_135_54, pR_135_55, pR_135_56, pR_135_57, pR_135_58, pR_135_59, pR_135_61, pR_135_62, pR_135_63, pR_135_64]
    refine go _ _ fun I1 h1 => ?_
    obtain ⟨f1, f2, f3⟩ := fin I1 h1
    simp (disch := omega) only [q_tl_none, r8062_48, r8062_49, r8062_50, r8062_51, r8062_53, r8062_56, r8062_57, r8062_59, r8062_62, m_sets, Nat.reduceAdd, m_isBack f3, nzn_b, nz_b, va_rf_some, va_rf_none, cat_int, cat_ref, cat_null, cat_jk, q_cs_nil, q_cs_int, q_cs_ref, q_cs_long, q_tl_some, q_tl_none, nz_0, nz_1, nzn_0, nzn_1, nz_b, true_and, and_true, Nat.reduceLeDiff, Nat.reduceAdd, l_0, l_1, l_2, l_3, l_4, l_5, l_6, l_7, l_8, l_9, l_10, l_11, l_12, l_13, l_14, l_15, l_16, l_17, l_18, l_19, l_20, l_24, l_32, l_40, l_41, l_42, l_43, l_45, l_48, l_57, l_59, l_60, l_61, l_63, l_64, l_80, l_96, l_97, l_99, l_100, l_122, l_160, l_200, l_320, l_640, l_999, l_1000, l_1200, l_4000, l_99999, l_100000, l_100001, l_100002, l_100006, l_100010, l_252645135, l_858993459, l_1431655765, n_cl, n_lt, n_le, n_eq, n_in, n_add, n_mul, n_sub, n_div, n_mod, n_addneg, n_negl, n_nege, Nat.add_sub_cancel, d_ltT, d_ltF, d_leT, d_leF, d_eqT, d_eqF, ↓reduceIte, Nat.reduceLeDiff, Nat.reduceAdd, Nat.reduceMul, Nat.reduceSub, Nat.reduceLT, Nat.zero_add, Nat.add_zero, not_false_eq_true, pK_135, pK_136, pK_137, pK_138, pK_139, pK_140, pK_141, pK_142, pK_143, pK_144, pK_145, pK_146, pK_147, pK_148, pK_149, pK_150, pK_151, pK_152, pK_153, pK_154, pK_155, pK_156, pK_157, pK_158, pK_159, pK_160, pK_161, pK_162, pK_163, pK_164, pK_165, pK_166, pK_167, pK_168, pK_169, pK_170, pK_171, pK_172, pK_173, pK_174, pK_175, pK_176, pK_177, pK_178, pR_135_0, pR_135_2, pR_135_3, pR_135_4, pR_135_5, pR_135_6, pR_135_7, pR_135_11, pR_135_12, pR_135_13, pR_135_14, pR_135_15, pR_135_16, pR_135_17, pR_135_19, pR_135_20, pR_135_21, pR_135_23, pR_135_24, pR_135_33, pR_135_34, pR_135_35, pR_135_36, pR_135_37, pR_135_38, pR_135_39, pR_135_40, pR_135_41, pR_135_46, pR_135_47, pR_135_51, pR_135_52, pR_135_53, pR_135_54, pR_135_55, pR_135_56, pR_135_57, pR_135_58, pR_135_59, pR_135_61, pR_135_62, pR_135_63, pR_135_64]
    exact hQ _ f1 f2 f3
  · simp (disch := omega) only [Nat.reduceAdd] at hset w0 go fin
    simp (disch := omega) only [r8062_0, r8062_1, r8062_4, r8062_5, r8062_8, r8062_9, r8062_10, r8062_13, r8062_14, r8062_15, r8062_18, r8062_19, r8062_22, r8062_23, r8062_24, r8062_27, r8062_28, r8062_31, r8062_32, r8062_33, r8062_35, r8062_36, r8062_37, r8062_38, r8062_40, r8062_43, r8062_44, r8062_45, hset, q_tl_none, w0, va_rf_some, va_rf_none, cat_int, cat_ref, cat_null, cat_jk, q_cs_nil, q_cs_int, q_cs_ref, q_cs_long, q_tl_some, q_tl_none, nz_0, nz_1, nzn_0, nzn_1, nz_b, true_and, and_true, Nat.reduceLeDiff, Nat.reduceAdd, l_0, l_1, l_2, l_3, l_4, l_5, l_6, l_7, l_8, l_9, l_10, l_11, l_12, l_13, l_14, l_15, l_16, l_17, l_18, l_19, l_20, l_24, l_32, l_40, l_41, l_42, l_43, l_45, l_48, l_57, l_59, l_60, l_61, l_63, l_64, l_80, l_96, l_97, l_99, l_100, l_122, l_160, l_200, l_320, l_640, l_999, l_1000, l_1200, l_4000, l_99999, l_100000, l_100001, l_100002, l_100006, l_100010, l_252645135, l_858993459, l_1431655765, n_cl, n_lt, n_le, n_eq, n_in, n_add, n_mul, n_sub, n_div, n_mod, n_addneg, n_negl, n_nege, Nat.add_sub_cancel, d_ltT, d_ltF, d_leT, d_leF, d_eqT, d_eqF, ↓reduceIte, Nat.reduceLeDiff, Nat.reduceAdd, Nat.reduceMul, Nat.reduceSub, Nat.reduceLT, Nat.zero_add, Nat.add_zero, not_false_eq_true, pK_135, pK_136, pK_137, pK_138, pK_139, pK_140, pK_141, pK_142, pK_143, pK_144, pK_145, pK_146, pK_147, pK_148, pK_149, pK_150, pK_151, pK_152, pK_153, pK_154, pK_155, pK_156, pK_157, pK_158, pK_159, pK_160, pK_161, pK_162, pK_163, pK_164, pK_165, pK_166, pK_167, pK_168, pK_169, pK_170, pK_171, pK_172, pK_173, pK_174, pK_175, pK_176, pK_177, pK_178, pR_135_0, pR_135_2, pR_135_3, pR_135_4, pR_135_5, pR_135_6, pR_135_7, pR_135_11, pR_135_12, pR_135_13, pR_135_14, pR_135_15, pR_135_16, pR_135_17, pR_135_19, pR_135_20, pR_135_21, pR_135_23, pR_135_24, pR_135_33, pR_135_34, pR_135_35, pR_135_36, pR_135_37, pR_135_38, pR_135_39, pR_135_40, pR_135_41, pR_135_46, pR_135_47, pR_135_51, pR_135_52, pR_135_53, pR_135_54, pR_135_55, pR_135_56, pR_135_57, pR_135_58, pR_135_59, pR_135_61, pR_135_62, pR_135_63, pR_135_64]
    refine go _ _ fun I1 h1 => ?_
    obtain ⟨f1, f2, f3⟩ := fin I1 h1
    simp (disch := omega) only [q_tl_none, r8062_48, r8062_49, r8062_50, r8062_51, r8062_53, r8062_56, r8062_57, r8062_59, r8062_62, m_sets, Nat.reduceAdd, m_isBack f3, nzn_b, nz_b, va_rf_some, va_rf_none, cat_int, cat_ref, cat_null, cat_jk, q_cs_nil, q_cs_int, q_cs_ref, q_cs_long, q_tl_some, q_tl_none, nz_0, nz_1, nzn_0, nzn_1, nz_b, true_and, and_true, Nat.reduceLeDiff, Nat.reduceAdd, l_0, l_1, l_2, l_3, l_4, l_5, l_6, l_7, l_8, l_9, l_10, l_11, l_12, l_13, l_14, l_15, l_16, l_17, l_18, l_19, l_20, l_24, l_32, l_40, l_41, l_42, l_43, l_45, l_48, l_57, l_59, l_60, l_61, l_63, l_64, l_80, l_96, l_97, l_99, l_100, l_122, l_160, l_200, l_320, l_640, l_999, l_1000, l_1200, l_4000, l_99999, l_100000, l_100001, l_100002, l_100006, l_100010, l_252645135, l_858993459, l_1431655765, n_cl, n_lt, n_le, n_eq, n_in, n_add, n_mul, n_sub, n_div, n_mod, n_addneg, n_negl, n_nege, Nat.add_sub_cancel, d_ltT, d_ltF, d_leT, d_leF, d_eqT, d_eqF, ↓reduceIte, Nat.reduceLeDiff, Nat.reduceAdd, Nat.reduceMul, Nat.reduceSub, Nat.reduceLT, Nat.zero_add, Nat.add_zero, not_false_eq_true, pK_135, pK_136, pK_137, pK_138, pK_139, pK_140, pK_141, pK_142, pK_143, pK_144, pK_145, pK_146, pK_147, pK_148, pK_149, pK_150, pK_151, pK_152, pK_153, pK_154, pK_155, pK_156, pK_157, pK_158, pK_159, pK_160, pK_161, pK_162, pK_163, pK_164, pK_165, pK_166, pK_167, pK_168, pK_169, pK_170, pK_171, pK_172, pK_173, pK_174, pK_175, pK_176, pK_177, pK_178, pR_135_0, pR_135_2, pR_135_3, pR_135_4, pR_135_5, pR_135_6, pR_135_7, pR_135_11, pR_135_12, pR_135_13, pR_135_14, pR_135_15, pR_135_16, pR_135_17, pR_135_19, pR_135_20, pR_135_21, pR_135_23, pR_135_24, pR_135_33, pR_135_34, pR_135_35, pR_135_36, pR_135_37, pR_135_38, pR_135_39, pR_135_40, pR_135_41, pR_135_46, pR_135_47, pR_135_51, pR_135_52, pR_135_53, pR_135_54, pR_135_55, pR_135_56, pR_135_57, pR_135_58, pR_135_59, pR_135_61, pR_135_62, pR_135_63, pR_135_64]
    exact hQ _ f1 f2 f3
end
