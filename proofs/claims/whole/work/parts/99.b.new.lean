/-! the constructor of the class -/
def z_L1 : List (Nat × Nat × Nat) := [(32, 0, 33), (32, 1, 34), (32, 2, 35), (32, 3, 36), (32, 4, 37), (32, 5, 42), (32, 6, 45), (32, 7, 57), (32, 8, 69), (33, 0, 80), (33, 1, 91), (33, 2, 102), (33, 3, 113), (36, 0, 124), (36, 1, 126), (36, 2, 128), (36, 3, 130), (37, 0, 38), (37, 1, 39), (37, 3, 40), (37, 4, 41), (42, 0, 43), (42, 3, 44), (45, 0, 46), (45, 10, 54), (45, 11, 55), (45, 12, 56), (46, 0, 47), (46, 1, 48), (46, 2, 49), (46, 3, 50), (46, 4, 51), (46, 5, 52), (46, 6, 53), (57, 0, 58), (57, 10, 66), (57, 11, 67), (57, 12, 68), (58, 0, 59), (58, 1, 60), (58, 2, 61), (58, 3, 62), (58, 4, 63), (58, 5, 64), (58, 6, 65), (69, 1, 70), (69, 2, 76), (70, 0, 71), (70, 1, 72), (70, 2, 73), (70, 3, 74), (70, 4, 75), (76, 0, 77), (76, 1, 78), (76, 2, 79), (80, 1, 81), (80, 2, 87), (81, 0, 82), (81, 1, 83), (81, 2, 84), (81, 3, 85), (81, 4, 86), (87, 0, 88), (87, 1, 89), (87, 2, 90), (91, 1, 92), (91, 2, 98), (92, 0, 93), (92, 1, 94), (92, 2, 95), (92, 3, 96), (92, 4, 97), (98, 0, 99), (98, 1, 100), (98, 2, 101), (102, 1, 103), (102, 2, 109), (103, 0, 104), (103, 1, 105), (103, 2, 106), (103, 3, 107), (103, 4, 108), (109, 0, 110), (109, 1, 111), (109, 2, 112), (113, 1, 114), (113, 2, 120), (114, 0, 115), (114, 1, 116), (114, 2, 117), (114, 3, 118), (114, 4, 119), (120, 0, 121), (120, 1, 122), (120, 2, 123), (124, 0, 125), (126, 0, 127), (128, 0, 129), (130, 0, 131)]
def z_L2 : List (Nat × Nat × Nat) := [(135, 0, 136), (135, 2, 137), (135, 3, 138), (135, 4, 139), (135, 5, 140), (135, 6, 141), (135, 7, 142), (135, 11, 143), (135, 12, 144), (135, 13, 145), (135, 14, 146), (135, 15, 147), (135, 16, 148), (135, 17, 149), (135, 19, 150), (135, 20, 151), (135, 21, 152), (135, 23, 153), (135, 24, 154), (135, 33, 155), (135, 34, 156), (135, 35, 157), (135, 36, 158), (135, 37, 159), (135, 38, 160), (135, 39, 161), (135, 40, 162), (135, 41, 163), (135, 46, 164), (135, 47, 165), (135, 51, 166), (135, 52, 167), (135, 53, 168), (135, 54, 169), (135, 55, 170), (135, 56, 171), (135, 57, 172), (135, 58, 173), (135, 59, 174), (135, 61, 175), (135, 62, 176), (135, 63, 177), (135, 64, 178)]
theorem zR_tab : ∀ a : Fin 179, ∀ k : Fin 70, (p_RT.getD a.1 []).getD k.1 0 = 0 ∨ (a.1, k.1, (p_RT.getD a.1 []).getD k.1 0 - 1) ∈ z_L1 ∨ (a.1, k.1, (p_RT.getD a.1 []).getD k.1 0 - 1) ∈ z_L2 := by decide +kernel
theorem zR_len : ∀ a : Fin 179, (p_RT.getD a.1 []).length ≤ 70 := by decide +kernel
theorem pR_eq {R : Nat → Nat → Option Nat} (h1 : ∀ e, e ∈ z_L1 → R e.1 e.2.1 = some e.2.2) (h2 : ∀ e, e ∈ z_L2 → R e.1 e.2.1 = some e.2.2) : p_R R = R := by
  funext a k
  by_cases h179 : 179 ≤ a
  · exact p_R_dyn h179
  by_cases ht : (p_RT.getD a []).getD k 0 = 0
  · exact p_R_free ht
  · have hk : k < 70 := by
      have hl := zR_len ⟨a, by omega⟩
      simp only at hl
      refine Nat.lt_of_not_le fun hge => ht ?_
      rw [List.getD_eq_getElem?_getD, List.getElem?_eq_none (by omega)]
      rfl
    have tb := zR_tab ⟨a, by omega⟩ ⟨k, hk⟩
    simp only at tb
    generalize hv : (p_RT.getD a []).getD k 0 = v at ht tb
    have hp : p_R R a k = some (v - 1) := by
      unfold p_R
      rw [hv]
      cases v with
      | zero => exact absurd rfl ht
      | succ v => rfl
    rw [hp]
    rcases tb with tb | tb | tb
    · exact absurd tb ht
    · exact (h1 _ tb).symm
    · exact (h2 _ tb).symm
theorem zm0_f {I : Nat → Nat → Int32} {m N b : Nat} (h : I b = fun _ => 0) : z_m0 I m N b = fun _ => 0 := by
  unfold z_m0
  split
  · rfl
  · exact h
/-- the ints that the first steps lay -/
def z_i1 (xs : Nat → Int32) (I : Nat → Nat → Int32) : Prop :=
  (∀ a, a < 32 → I a = q_sI xs a) ∧ (∀ a, 132 ≤ a → I a = fun _ => 0) ∧ (∀ a, a = 32 ∨ (37 ≤ a ∧ a ≤ 44) ∨ (∃ s, s < 4 ∧ 80 + 11 * s < a ∧ a < 91 + 11 * s) ∨ a = 125 ∨ a = 127 ∨ a = 129 ∨ a = 131 → I a = fun _ => 0) ∧
  (∀ s, s < 4 → I (80 + 11 * s) 0 = Int32.ofNat s ∧ ∀ k, k ≠ 0 → I (80 + 11 * s) k = 0) ∧ ∀ s, s < 4 → I (124 + 2 * s) 1 = -Int32.ofNat 1 ∧ ∀ k, k ≠ 1 → I (124 + 2 * s) k = 0
set_option maxRecDepth 100000 in
theorem c_new1 {L d : Nat} {xs : Nat → Int32} {Q : Option Value → q_H → Prop} (hQ : ∀ I R, z_i1 xs I → (∀ e, e ∈ z_L1 → R e.1 e.2.1 = some e.2.2) → (∀ a, a < 32 ∨ 132 ≤ a → R a = fun _ => none) → q_wp (d + 3) 11 7000 147 [.ref 32, .int (Int32.ofNat 4)] [] (I, z_j, R, z_K L 132, 132) Q) :
    q_wp (d + 3) 110 7000 0 [.ref 32, q_jk] [] (q_sI xs, z_j, z_n, z_K L 33, 33) Q := by
  simp (disch := first | omega | exact rfl | (simp (disch := omega) only [q_up_fa, zm2_o, zm0_o, zn_at, sI_0, nw_o])) only [r7000_0, r7000_1, r7000_4, r7000_5, r7000_6, r7000_9, r7000_12, r7000_13, r7000_15, r7000_18, r7000_21, r7000_22, r7000_24, r7000_27, r7000_30, r7000_31, r7000_32, r7000_35, r7000_38, r7000_39, r7000_42, r7000_43, r7000_46, r7000_49, r7000_50, r7000_53, r7000_54, r7000_57, r7000_60, r7000_61, r7000_64, r7000_65, r7000_68, r7000_71, r7000_72, r7000_75, r7000_76, r7000_79, r7000_82, r7000_83, r7000_86, r7000_87, r7000_88, r7000_91, r7000_94, r7000_95, r7000_96, r7000_97, r7000_98, r7000_101, r7000_102, r7000_105, r7000_106, r7000_109, r7000_110, r7000_111, r7000_114, r7000_115, r7000_118, r7000_121, r7000_122, r7000_123, r7000_124, r7000_125, r7000_128, r7000_129, r7000_132, r7000_133, r7000_136, r7000_137, r7000_140, r7000_141, r7000_144, r2000_0, r2000_1, r2000_4, r2000_5, r2000_7, r2000_9, r2000_12, r2000_13, r2000_15, r2000_17, r2000_20, r2000_21, r2000_23, r2000_25, r2000_28, r2000_29, r2000_31, r2000_33, r2000_36, r3000_0, r3000_1, r3000_4, r3000_5, r3000_8, r3000_10, r3000_13, r3000_14, r3000_17, r3000_19, r3000_22, r0_0, r0_1, r0_4, r0_5, r0_7, r0_9, r0_13, r0_16, r0_17, r0_19, r0_21, r0_24, r0_25, r0_28, r0_30, r0_33, r0_34, r0_35, r0_37, r0_40, r4000_0, r4000_1, r4000_4, r4000_5, r4000_7, r4000_9, r4000_12, r4000_13, r4000_14, r4000_17, r5000_0, r5000_1, r5000_4, r5000_5, r5000_6, r5000_8, r5000_12, r5000_15, r5000_16, r5000_17, r5000_19, r5000_23, r5000_26, r5000_27, r5000_28, r5000_31, q_mal, mal2_z, zj_nw, zj_m2, zn_nw, zK_33, zK_34, zK_35, zK_36, zK_37, zK_38, zK_39, zK_40, zK_41, zK_42, zK_43, zK_44, zK_45, zK_47, zK_48, zK_49, zK_50, zK_51, zK_52, zK_53, zK_54, zK_55, zK_56, zK_57, zK_59, zK_60, zK_61, zK_62, zK_63, zK_64, zK_65, zK_66, zK_67, zK_68, zK_69, zK_71, zK_72, zK_73, zK_74, zK_75, zK_77, zK_78, zK_79, zK_80, zK_82, zK_83, zK_84, zK_85, zK_86, zK_88, zK_89, zK_90, zK_91, zK_93, zK_94, zK_95, zK_96, zK_97, zK_99, zK_100, zK_101, zK_102, zK_104, zK_105, zK_106, zK_107, zK_108, zK_110, zK_111, zK_112, zK_113, zK_115, zK_116, zK_117, zK_118, zK_119, zK_121, zK_122, zK_123, zK_124, zK_125, zK_126, zK_127, zK_128, zK_129, zK_130, zK_131, zK_m2_46, zK_m2_58, zK_m2_70, zK_m2_76, zK_m2_81, zK_m2_87, zK_m2_92, zK_m2_98, zK_m2_103, zK_m2_109, zK_m2_114, zK_m2_120, nwI, nwIn, nwR, zK_at, q_up_a, q_up_k, q_up_same, zm2_o, q_tl_none, q_tl_some, List.cons_append, List.nil_append, va_rf_some, va_rf_none, cat_int, cat_ref, cat_null, cat_jk, q_cs_nil, q_cs_int, q_cs_ref, q_cs_long, q_tl_some, q_tl_none, nz_0, nz_1, nzn_0, nzn_1, nz_b, true_and, and_true, Nat.reduceLeDiff, Nat.reduceAdd, l_0, l_1, l_2, l_3, l_4, l_5, l_6, l_7, l_8, l_9, l_10, l_11, l_12, l_13, l_14, l_15, l_16, l_17, l_18, l_19, l_20, l_24, l_32, l_40, l_41, l_42, l_43, l_45, l_48, l_57, l_59, l_60, l_61, l_63, l_64, l_80, l_96, l_97, l_99, l_100, l_122, l_160, l_200, l_320, l_640, l_999, l_1000, l_1200, l_4000, l_99999, l_100000, l_100001, l_100002, l_100006, l_100010, l_252645135, l_858993459, l_1431655765, n_cl, n_lt, n_le, n_eq, n_in, n_add, n_mul, n_sub, n_div, n_mod, n_addneg, n_negl, n_nege, Nat.add_sub_cancel, d_ltT, d_ltF, d_leT, d_leF, d_eqT, d_eqF, ↓reduceIte, Nat.reduceLeDiff, Nat.reduceAdd, Nat.reduceMul, Nat.reduceSub, Nat.reduceLT, Nat.zero_add, Nat.add_zero, not_false_eq_true, b_eq0, b_eq1, b_0eq, ite_not, not_true_eq_false, not_false_eq_true, ↓reduceIte, and_self, pK_32, pK_33, pK_34, pK_35, pK_36, pK_37, pK_38, pK_39, pK_40, pK_41, pK_42, pK_43, pK_44, pK_45, pK_46, pK_47, pK_48, pK_49, pK_50, pK_51, pK_52, pK_53, pK_54, pK_55, pK_56, pK_57, pK_58, pK_59, pK_60, pK_61, pK_62, pK_63, pK_64, pK_65, pK_66, pK_67, pK_68, pK_69, pK_70, pK_71, pK_72, pK_73, pK_74, pK_75, pK_76, pK_77, pK_78, pK_79, pK_80, pK_81, pK_82, pK_83, pK_84, pK_85, pK_86, pK_87, pK_88, pK_89, pK_90, pK_91, pK_92, pK_93, pK_94, pK_95, pK_96, pK_97, pK_98, pK_99, pK_100, pK_101, pK_102, pK_103, pK_104, pK_105, pK_106, pK_107, pK_108, pK_109, pK_110, pK_111, pK_112, pK_113, pK_114, pK_115, pK_116, pK_117, pK_118, pK_119, pK_120, pK_121, pK_122, pK_123, pK_124, pK_125, pK_126, pK_127, pK_128, pK_129, pK_130, pK_131]
  refine hQ _ _ ⟨fun a ha => ?_, fun a ha => ?_, fun a ha => ?_, fun s hs => ?_, fun s hs => ?_⟩ ?_ fun a ha => ?_
  · simp (disch := omega) only [q_up_fa, zm0_o]
  · simp (disch := omega) only [q_up_fa, zm0_o, sI_0]
  · have hne : a ≠ 69 ∧ a ≠ 80 ∧ a ≠ 91 ∧ a ≠ 102 ∧ a ≠ 113 ∧ a ≠ 124 ∧ a ≠ 126 ∧ a ≠ 128 ∧ a ≠ 130 ∧ 32 ≤ a := by
      rcases ha with h | h | ⟨s, h1, h2, h3⟩ | h
      · omega
      · omega
      · have : s = 0 ∨ s = 1 ∨ s = 2 ∨ s = 3 := by omega
        rcases this with rfl | rfl | rfl | rfl <;> omega
      · omega
    obtain ⟨n1, n2, n3, n4, n5, n6, n7, n8, n9, n10⟩ := hne
    repeat first | exact sI_0 (by omega) | apply zm0_f | rw [q_up_fa (by assumption)]
  · have : s = 0 ∨ s = 1 ∨ s = 2 ∨ s = 3 := by omega
    rcases this with rfl | rfl | rfl | rfl <;> refine ⟨by simp (disch := omega) only [q_up_a, q_up_same, zm0_o, Nat.reduceAdd, Nat.reduceMul], fun k hk => ?_⟩ <;> simp (disch := omega) only [q_up_a, q_up_k, zm0_o, sI_0, Nat.reduceAdd, Nat.reduceMul]
  · have : s = 0 ∨ s = 1 ∨ s = 2 ∨ s = 3 := by omega
    rcases this with rfl | rfl | rfl | rfl <;> refine ⟨by simp (disch := omega) only [q_up_a, q_up_same, zm0_o, Nat.reduceAdd, Nat.reduceMul], fun k hk => ?_⟩ <;> simp (disch := omega) only [q_up_a, q_up_k, zm0_o, sI_0, Nat.reduceAdd, Nat.reduceMul]
  · simp (disch := omega) only [z_L1, List.forall_mem_cons, List.forall_mem_nil, q_up_a, q_up_k, q_up_same, zm2_o, zm2_i, and_self, Nat.reduceAdd, List.not_mem_nil, false_implies, implies_true]
  · simp (disch := omega) only [q_up_fa, zm2_o, zn_at]
