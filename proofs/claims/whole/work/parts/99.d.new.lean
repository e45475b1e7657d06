/-! the constructor of the class: the tape of the first law is put, and read -/
theorem zz_z {L m : Nat} {R : Nat → Nat → Option Nat} (h0 : R 42 0 = some 43) (h3 : R 42 3 = some 44) (hm : 45 ≤ m) : y_z R (z_K L m) := by
  have e : ∀ a, a < 45 → z_K L m a = p_K L z_d0 a := fun a ha => zK_at (by omega)
  refine ⟨(e 42 (by decide)).trans rfl, (e 43 (by decide)).trans rfl, (e 44 (by decide)).trans rfl, h0, h3, fun a a1 a2 => ?_⟩
  rw [e a (by omega)]
  unfold p_K
  rw [if_pos (by omega), if_neg (by omega)]
section
variable {L d : Nat} {Q : Option Value → q_H → Prop} {R : Nat → Nat → Option Nat}
theorem c_new_loop (h5 : R 32 5 = some 42) (h0 : R 42 0 = some 43) (h3 : R 42 3 = some 44) : ∀ (m i : Nat) (I : Nat → Nat → Int32), m = 63 - i → i ≤ 63 → x_S I → I 42 1 = Int32.ofNat i → (∀ k, k < i → I 43 k = Int32.ofNat (z_by k)) →
    (∀ I', (∀ a, a ≠ 42 → a ≠ 43 → I' a = I a) → I' 42 1 = Int32.ofNat 63 → (∀ k, k < 63 → I' 43 k = Int32.ofNat (z_by k)) → q_wp (d + 5) 11 7000 178 [.ref 32, .int (Int32.ofNat 63)] [] (I', z_j, R, z_K L 132, 132) Q) →
    q_wp (d + 5) 11 7000 149 [.ref 32, .int (Int32.ofNat i)] [] (I, z_j, R, z_K L 132, 132) Q
  | 0, i, I, hm, hi, hS, h1, hb, hQ => by
    obtain rfl : i = 63 := by omega
    have hz : y_z R (z_K L 132) := zz_z h0 h3 (by decide)
    have e16 : z_K L 132 (3 + 13) = (101, 63) := (zK_at (by decide)).trans rfl
    rw [r7000_149]
    simp (disch := omega) only [r7000_150, r7000_152, r7000_155, s_length hz (show 3 ≤ 3 ∧ 3 < 16 by decide) e16, and_self, b_eq0, b_eq1, b_0eq, ite_not, not_true_eq_false, not_false_eq_true, ↓reduceIte, va_rf_some, va_rf_none, cat_int, cat_ref, cat_null, cat_jk, q_cs_nil, q_cs_int, q_cs_ref, q_cs_long, q_tl_some, q_tl_none, nz_0, nz_1, nzn_0, nzn_1, nz_b, true_and, and_true, Nat.reduceLeDiff, Nat.reduceAdd, l_0, l_1, l_2, l_3, l_4, l_5, l_6, l_7, l_8, l_9, l_10, l_11, l_12, l_13, l_14, l_15, l_16, l_17, l_18, l_19, l_20, l_24, l_32, l_40, l_41, l_42, l_43, l_45, l_48, l_57, l_59, l_60, l_61, l_63, l_64, l_80, l_96, l_97, l_99, l_100, l_122, l_160, l_200, l_320, l_640, l_999, l_1000, l_1200, l_4000, l_99999, l_100000, l_100001, l_100002, l_100006, l_100010, l_252645135, l_858993459, l_1431655765, n_cl, n_lt, n_le, n_eq, n_in, n_add, n_mul, n_sub, n_div, n_mod, n_addneg, n_negl, n_nege, Nat.add_sub_cancel, d_ltT, d_ltF, d_leT, d_leF, d_eqT, d_eqF, ↓reduceIte, Nat.reduceLeDiff, Nat.reduceAdd, Nat.reduceMul, Nat.reduceSub, Nat.reduceLT, Nat.zero_add, Nat.add_zero, not_false_eq_true]
    exact hQ I (fun _ _ _ => rfl) h1 hb
  | m + 1, i, I, hm, hi, hS, h1, hb, hQ => by
    have hz : y_z R (z_K L 132) := zz_z h0 h3 (by decide)
    have e16 : z_K L 132 (3 + 13) = (101, 63) := (zK_at (by decide)).trans rfl
    obtain ⟨b1, b2⟩ := zb_byt ⟨i, by omega⟩
    simp only at b1 b2
    have w1 : I (3 + 13) i = Int32.ofNat (z_by i) := (hS 0 (by decide) i).trans b1
    rw [r7000_149]
    simp (disch := omega) only [r7000_150, r7000_152, r7000_155, r7000_158, r7000_159, r7000_162, r7000_164, r7000_165, r7000_168, r7000_169, r7000_172, r7000_175, r3001_0, r3001_1, r3001_4, r3001_7, r3001_10, r3001_11, r3001_14, r3001_15, r3001_16, r3001_19, r3001_20, r3001_21, r3001_22, r3001_25, r3001_26, r3001_27, s_length hz (show 3 ≤ 3 ∧ 3 < 16 by decide) e16, s_charAt hz (show 3 ≤ 3 ∧ 3 < 16 by decide) e16 (show i < 63 by omega) (by decide) w1 b2, by_lo b2, zK_at, pK_32, pK_42, pK_43, h5, h0, h1, q_tl_none, q_tl_some, List.cons_append, List.nil_append, n_add, and_self, b_eq0, b_eq1, b_0eq, ite_not, not_true_eq_false, not_false_eq_true, ↓reduceIte, va_rf_some, va_rf_none, cat_int, cat_ref, cat_null, cat_jk, q_cs_nil, q_cs_int, q_cs_ref, q_cs_long, q_tl_some, q_tl_none, nz_0, nz_1, nzn_0, nzn_1, nz_b, true_and, and_true, Nat.reduceLeDiff, Nat.reduceAdd, l_0, l_1, l_2, l_3, l_4, l_5, l_6, l_7, l_8, l_9, l_10, l_11, l_12, l_13, l_14, l_15, l_16, l_17, l_18, l_19, l_20, l_24, l_32, l_40, l_41, l_42, l_43, l_45, l_48, l_57, l_59, l_60, l_61, l_63, l_64, l_80, l_96, l_97, l_99, l_100, l_122, l_160, l_200, l_320, l_640, l_999, l_1000, l_1200, l_4000, l_99999, l_100000, l_100001, l_100002, l_100006, l_100010, l_252645135, l_858993459, l_1431655765, n_cl, n_lt, n_le, n_eq, n_in, n_add, n_mul, n_sub, n_div, n_mod, n_addneg, n_negl, n_nege, Nat.add_sub_cancel, d_ltT, d_ltF, d_leT, d_leF, d_eqT, d_eqF, ↓reduceIte, Nat.reduceLeDiff, Nat.reduceAdd, Nat.reduceMul, Nat.reduceSub, Nat.reduceLT, Nat.zero_add, Nat.add_zero, not_false_eq_true]
    refine c_new_loop h5 h0 h3 m (i + 1) _ (by omega) (by omega) (fun j hj k => ?_) ?_ (fun k hk => ?_) fun I' f1 f2 f3 => hQ I' (fun a a1 a2 => ?_) f2 f3
    · rw [q_up_fa (by omega), q_up_fa (by omega)]; exact hS j hj k
    · rw [q_up_a (by decide), q_up_same]
    · by_cases e : k = i
      · rw [e, q_up_same]
      · rw [q_up_k e, q_up_fa (by decide)]; exact hb k (by omega)
    · rw [f1 a a1 a2, q_up_fa a2, q_up_fa a1]
theorem zL1_n : ∀ e, e ∈ z_L1 → e.1 ≠ 35 ∧ e.1 ≠ 134 := by decide +kernel
theorem zL1_b : ∀ e, e ∈ z_L1 → e.1 < 135 := by decide +kernel
/-- the ints when all is laid -/
def z_i2 (xs : Nat → Int32) (I : Nat → Nat → Int32) : Prop :=
  (∀ a, a < 32 → I a = q_sI xs a) ∧ (∀ a, 135 ≤ a → I a = fun _ => 0) ∧ (∀ a, (37 ≤ a ∧ a ≤ 41) ∨ (∃ s, s < 4 ∧ 80 + 11 * s < a ∧ a < 91 + 11 * s) ∨ a = 125 ∨ a = 127 ∨ a = 129 ∨ a = 131 → I a = fun _ => 0) ∧
  (∀ s, s < 4 → I (80 + 11 * s) 0 = Int32.ofNat s ∧ ∀ k, k ≠ 0 → I (80 + 11 * s) k = 0) ∧ (∀ s, s < 4 → I (124 + 2 * s) 1 = -Int32.ofNat 1 ∧ ∀ k, k ≠ 1 → I (124 + 2 * s) k = 0) ∧
  (I 32 11 = Int32.ofNat 1 ∧ ∀ k, k ≠ 11 → I 32 k = 0) ∧ I 42 1 = Int32.ofNat 0 ∧ y_lw I 133 132 z_o1 z_o2 z_o3
theorem c_new2 {xs : Nat → Int32} {K : Nat} {I : Nat → Nat → Int32} (hK : 48 ≤ K) (hI : z_i1 xs I) (h1 : ∀ e, e ∈ z_L1 → R e.1 e.2.1 = some e.2.2) (h0 : ∀ a, a < 32 ∨ 132 ≤ a → R a = fun _ => none)
    (hQ : ∀ I' R', z_i2 xs I' → (∀ e, e ∈ z_L1 → R' e.1 e.2.1 = some e.2.2) → (∀ a, 135 ≤ a → R' a = fun _ => none) → R' 35 0 = some 134 → R' 134 0 = some 133 → R' 134 1 = some 132 → Q none (I', z_j, R', z_K L 135, 135)) :
    q_wp (K + 11) 11 7000 147 [.ref 32, .int (Int32.ofNat 4)] [] (I, z_j, R, z_K L 132, 132) Q := by
  obtain ⟨i1, i2, i3, i4, i5⟩ := hI
  have r5 : R 32 5 = some 42 := h1 (32, 5, 42) (by decide +kernel)
  have r0 : R 42 0 = some 43 := h1 (42, 0, 43) (by decide +kernel)
  have r3 : R 42 3 = some 44 := h1 (42, 3, 44) (by decide +kernel)
  have r2 : R 32 2 = some 35 := h1 (32, 2, 35) (by decide +kernel)
  have z32 : I 32 = fun _ => 0 := i3 32 (.inl rfl)
  have z42 : I 42 = fun _ => 0 := i3 42 (.inr (.inl (by decide)))
  have hS : x_S I := fun i hi j => by
    rw [i1 _ (by omega)]
    unfold q_sI
    rw [if_neg (by omega), if_neg (by omega), if_neg (by omega), if_neg (by omega), if_pos (by omega), Nat.add_sub_cancel_left]
  simp (disch := omega) only [r7000_147, r7000_148, b_eq0, b_eq1, b_0eq, ite_not, not_true_eq_false, not_false_eq_true, ↓reduceIte, va_rf_some, va_rf_none, cat_int, cat_ref, cat_null, cat_jk, q_cs_nil, q_cs_int, q_cs_ref, q_cs_long, q_tl_some, q_tl_none, nz_0, nz_1, nzn_0, nzn_1, nz_b, true_and, and_true, Nat.reduceLeDiff, Nat.reduceAdd, l_0, l_1, l_2, l_3, l_4, l_5, l_6, l_7, l_8, l_9, l_10, l_11, l_12, l_13, l_14, l_15, l_16, l_17, l_18, l_19, l_20, l_24, l_32, l_40, l_41, l_42, l_43, l_45, l_48, l_57, l_59, l_60, l_61, l_63, l_64, l_80, l_96, l_97, l_99, l_100, l_122, l_160, l_200, l_320, l_640, l_999, l_1000, l_1200, l_4000, l_99999, l_100000, l_100001, l_100002, l_100006, l_100010, l_252645135, l_858993459, l_1431655765]
  refine c_new_loop (d := K + 6) r5 r0 r3 63 0 I rfl (by decide) hS (by rw [z42]; rfl) (fun k hk => absurd hk (Nat.not_lt_zero _)) fun I1 f1 f2 f3 => ?_
  have S1 : x_S I1 := fun i hi k => by rw [f1 _ (by omega) (by omega)]; exact hS i hi k
  have hT : x_T I1 z_by 63 := ⟨f2, by decide, fun k hk => by
    obtain ⟨-, b2⟩ := zb_byt ⟨k, hk⟩
    exact ⟨Nat.le_of_lt (Nat.lt_trans b2 (by decide)), (f3 k hk).trans (by_lo b2).symm⟩⟩
  simp (disch := omega) only [r7000_178, r7000_179, r7000_182, r7000_183, r7000_184, r7000_187, zK_at, pK_32, pK_42, r5, r2, b_eq0, b_eq1, b_0eq, ite_not, not_true_eq_false, not_false_eq_true, ↓reduceIte, va_rf_some, va_rf_none, cat_int, cat_ref, cat_null, cat_jk, q_cs_nil, q_cs_int, q_cs_ref, q_cs_long, q_tl_some, q_tl_none, nz_0, nz_1, nzn_0, nzn_1, nz_b, true_and, and_true, Nat.reduceLeDiff, Nat.reduceAdd, l_0, l_1, l_2, l_3, l_4, l_5, l_6, l_7, l_8, l_9, l_10, l_11, l_12, l_13, l_14, l_15, l_16, l_17, l_18, l_19, l_20, l_24, l_32, l_40, l_41, l_42, l_43, l_45, l_48, l_57, l_59, l_60, l_61, l_63, l_64, l_80, l_96, l_97, l_99, l_100, l_122, l_160, l_200, l_320, l_640, l_999, l_1000, l_1200, l_4000, l_99999, l_100000, l_100001, l_100002, l_100006, l_100010, l_252645135, l_858993459, l_1431655765, n_cl, n_lt, n_le, n_eq, n_in, n_add, n_mul, n_sub, n_div, n_mod, n_addneg, n_negl, n_nege, Nat.add_sub_cancel, d_ltT, d_ltF, d_leT, d_leF, d_eqT, d_eqF, ↓reduceIte, Nat.reduceLeDiff, Nat.reduceAdd, Nat.reduceMul, Nat.reduceSub, Nat.reduceLT, Nat.zero_add, Nat.add_zero, not_false_eq_true, and_self]
  refine s_toLaw (zz_z r0 r3 (by decide)) hT S1 hK (by decide) (by decide) z_lx (fun I2 f hf _ _ _ => ?_) (fun I2 len o1 o2 o3 ho g1 g2 g3 g4 g5 => ?_)
  · rw [z_tx] at hf; cases hf
  · rw [z_tx] at ho
    injection ho with ho
    injection ho with ho1 ho
    injection ho with ho2 ho3
    subst ho1 ho2 ho3
    obtain rfl : len = 13 := g4
    simp (disch := first | omega | exact rfl) only [q_tl_some, List.cons_append, List.nil_append, r7000_190, r7000_191, r7000_192, r7000_195, r7000_196, r7000_199, r7000_200, r7000_201, r7000_204, zj_nw, zK_132, zK_133, zK_134, nwR (h0 132 (by decide)), nwR (h0 133 (by decide)), nwR (h0 134 (by decide)), zK_at, pK_32, pK_35, pK_42, pK_134, r5, r2, q_up_a, q_up_k, q_up_same, Nat.reduceAdd, b_eq0, b_eq1, b_0eq, ite_not, not_true_eq_false, not_false_eq_true, ↓reduceIte, va_rf_some, va_rf_none, cat_int, cat_ref, cat_null, cat_jk, q_cs_nil, q_cs_int, q_cs_ref, q_cs_long, q_tl_some, q_tl_none, nz_0, nz_1, nzn_0, nzn_1, nz_b, true_and, and_true, Nat.reduceLeDiff, Nat.reduceAdd, l_0, l_1, l_2, l_3, l_4, l_5, l_6, l_7, l_8, l_9, l_10, l_11, l_12, l_13, l_14, l_15, l_16, l_17, l_18, l_19, l_20, l_24, l_32, l_40, l_41, l_42, l_43, l_45, l_48, l_57, l_59, l_60, l_61, l_63, l_64, l_80, l_96, l_97, l_99, l_100, l_122, l_160, l_200, l_320, l_640, l_999, l_1000, l_1200, l_4000, l_99999, l_100000, l_100001, l_100002, l_100006, l_100010, l_252645135, l_858993459, l_1431655765, n_cl, n_lt, n_le, n_eq, n_in, n_add, n_mul, n_sub, n_div, n_mod, n_addneg, n_negl, n_nege, Nat.add_sub_cancel, d_ltT, d_ltF, d_leT, d_leF, d_eqT, d_eqF, ↓reduceIte, Nat.reduceLeDiff, Nat.reduceAdd, Nat.reduceMul, Nat.reduceSub, Nat.reduceLT, Nat.zero_add, Nat.add_zero, not_false_eq_true, and_self]
    obtain ⟨⟨v0, v1, v2, v3⟩, v4, v5, v6, v7⟩ := g3
    have o1 : ∀ a, a ≠ 42 → a ≠ 44 → a ≠ 43 → a < 132 → I2 a = I a := fun a a1 a2 a3 a4 => by rw [g1 a a1 a2 a4, f1 a a1 a3]
    have o2 : ∀ a, 134 < a → I2 a = fun _ => 0 := fun a ha => by rw [g5 a ha, f1 a (by omega) (by omega)]; exact i2 a (by omega)
    refine hQ _ _ ⟨fun a ha => ?_, fun a ha => ?_, fun a ha => ?_, fun s hs => ?_, fun s hs => ?_, ⟨?_, fun k hk => ?_⟩, ?_, ?_⟩ (fun e he => ?_) (fun a ha => ?_) q_up_same ?_ ?_
    · rw [q_up_fa (by omega), q_up_fa (by omega), o1 a (by omega) (by omega) (by omega) (by omega)]; exact i1 a ha
    · rw [q_up_fa (by omega), q_up_fa (by omega)]; exact o2 a (by omega)
    · have hne : a ≠ 32 ∧ a ≠ 42 ∧ a ≠ 43 ∧ a ≠ 44 ∧ a < 132 := by
        rcases ha with h | ⟨s, h1, h2, h3⟩ | h
        · omega
        · omega
        · omega
      rw [q_up_fa hne.1, q_up_fa hne.2.1, o1 a hne.2.1 hne.2.2.2.1 hne.2.2.1 hne.2.2.2.2]
      refine i3 a ?_
      rcases ha with h | h | h
      · exact .inr (.inl (by omega))
      · exact .inr (.inr (.inl h))
      · exact .inr (.inr (.inr h))
    · rw [q_up_fa (by omega), q_up_fa (by omega), o1 _ (by omega) (by omega) (by omega) (by omega)]; exact i4 s hs
    · rw [q_up_fa (by omega), q_up_fa (by omega), o1 _ (by omega) (by omega) (by omega) (by omega)]; exact i5 s hs
    · exact q_up_same
    · rw [q_up_k hk, q_up_fa (by decide), o1 32 (by decide) (by decide) (by decide) (by decide), z32]
    · rw [q_up_fa (by decide), q_up_same]
    · have oI : ∀ a, a ≠ 32 → a ≠ 42 → q_up (q_up I2 42 1 (Int32.ofNat 0)) 32 11 (Int32.ofNat 1) a = I2 a := fun a h1 h2 => by rw [q_up_fa h1, q_up_fa h2]
      unfold y_lw
      rw [oI 132 (by decide) (by decide), oI 133 (by decide) (by decide)]
      exact ⟨⟨v0, v1, v2, v3⟩, v4, v5, v6, v7⟩
    · obtain ⟨n1, n2⟩ := zL1_n e he
      rw [q_up_a n1, q_up_a n2, q_up_a n2]; exact h1 e he
    · rw [q_up_fa (by omega), q_up_fa (by omega), q_up_fa (by omega)]; exact h0 a (.inr (by omega))
    · rw [q_up_a (by decide), q_up_k (by decide), q_up_same]
    · rw [q_up_a (by decide), q_up_same]
/-- the whole constructor -/
theorem c_new {L K : Nat} {xs : Nat → Int32} {Q : Option Value → q_H → Prop} (hK : 48 ≤ K)
    (hQ : ∀ I' R', z_i2 xs I' → (∀ e, e ∈ z_L1 → R' e.1 e.2.1 = some e.2.2) → (∀ a, 135 ≤ a → R' a = fun _ => none) → R' 35 0 = some 134 → R' 134 0 = some 133 → R' 134 1 = some 132 → Q none (I', z_j, R', z_K L 135, 135)) :
    q_wp (K + 11) 110 7000 0 [.ref 32, q_jk] [] (q_sI xs, z_j, z_n, z_K L 33, 33) Q :=
  c_new1 (d := K + 8) fun _ _ hI h1 h0 => c_new2 hK hI h1 h0 hQ
end
