/-! a step of the class's flight, and all of it -/
theorem c_max0 {x : Int32} : (if Int32.ofNat 0 < x then x else Int32.ofNat 0) = (if x < 0 then 0 else x) := by
  by_cases h : x < 0
  · rw [if_pos h, if_neg (by rw [t_lt] at h ⊢; rw [show (0 : Int32).toInt = 0 from rfl] at h; rw [show (Int32.ofNat 0).toInt = 0 from rfl]; omega)]; rfl
  · rw [if_neg h]
    split
    · rfl
    · rename_i h2
      rw [t_lt] at h h2
      exact Int32.toInt.inj (by rw [show (0 : Int32).toInt = 0 from rfl] at h; rw [show (Int32.ofNat 0).toInt = 0 from rfl] at h2 ⊢; omega)
theorem x_xor {x : Int32} {y : Int32} (hy : 0 ≤ y) : (0 ≤ x ^^^ y) ↔ 0 ≤ x := by
  have key : ∀ z : Int32, (0 ≤ z) ↔ z.toBitVec.msb = false := fun z => by
    rw [Int32.le_iff_toInt_le, show (0 : Int32).toInt = 0 from rfl, ← Int32.toInt_toBitVec, BitVec.toInt_eq_msb_cond]
    have := z.toBitVec.isLt
    cases h : z.toBitVec.msb
    · simp
    · simp; omega
  rw [key] at hy
  rw [key, key, Int32.toBitVec_xor, BitVec.msb_xor, hy]
  simp
theorem p_fm64 {x : Int32} (h1 : -640 ≤ x.toInt) (h2 : x.toInt ≤ 10000) : p_fm x (Int32.ofNat 64) = (x + Int32.ofNat 640) % Int32.ofNat 64 := by
  have e64 : (Int32.ofNat 64).toInt = 64 := rfl
  have e640 : (Int32.ofNat 640).toInt = 640 := rfl
  have ea : (x + Int32.ofNat 640).toInt = x.toInt + 640 := by rw [t_add (by omega) (by omega), e640]
  have em : (x % Int32.ofNat 64).toInt = x.toInt.tmod 64 := by rw [t_mod, e64]
  have e0 : (0 : Int32).toInt = 0 := rfl
  unfold p_fm
  by_cases h : 0 ≤ x
  · rw [if_pos ((x_xor (by decide)).2 h)]
    rw [t_le, e0] at h
    refine Int32.toInt.inj ?_
    rw [em, t_mod, ea, e64, Int.tmod_eq_emod_of_nonneg h, Int.tmod_eq_emod_of_nonneg (by omega)]
    omega
  · rw [if_neg (fun z => h ((x_xor (by decide)).1 z))]
    rw [t_le, e0] at h
    have hm : x.toInt.tmod 64 = -((-x.toInt) % 64) := by
      rw [show x.toInt = -(-x.toInt) by omega, Int.neg_tmod, Int.tmod_eq_emod_of_nonneg (by omega)]
      simp
    split
    · rename_i hz
      rw [t_eq, em, e0] at hz
      refine Int32.toInt.inj ?_
      rw [em, t_mod, ea, e64, Int.tmod_eq_emod_of_nonneg (a := x.toInt + 640) (by omega)]
      omega
    · rename_i hz
      rw [t_eq, em, e0] at hz
      refine Int32.toInt.inj ?_
      rw [t_add (by rw [em, e64]; omega) (by rw [em, e64]; omega), em, t_mod, ea, e64, Int.tmod_eq_emod_of_nonneg (a := x.toInt + 640) (by omega)]
      omega
theorem s_step {d c L n f i k t st b u v : Nat} {w p : Int32} {mir : Bool} {Q : Option Value → q_H → Prop} {I0 I M : Nat → Nat → Int32} {r : Nat → Nat → Option Nat} {dk : Nat → Nat × Nat} (hf : f = 45 ∨ f = 57) (hc : p_con I0 M) (ha : p_fa f L r dk I0 M i w p mir t st b u v) (ht : p_tw M i) (hr : p_rw M) (hw : p_nb w 63) (hp : p_nb p 60) (hk : k < 40) (hI : p_cfl f I0 (p_row M i w p mir) k I) (hsh : ∀ j, j < 3 → I (f + 11) j = p_share M (p_si M i) j)
    (hQ : ∀ I', p_cfl f I0 (p_row M i w p mir) (k + 1) I' → (∀ j, j < 3 → I' (f + 11) j = p_share M (p_si M i) j) → Q none (p_h L I' r dk n)) :
    q_wp (d + 4) c 5 0 [.ref f, q_jk, q_jk, q_jk, q_jk, q_jk, q_jk, q_jk, q_jk, q_jk] [] (p_h L I r dk n) Q := by
  have hb := p_row_b (mir := mir) ht hw hp k (by omega)
  obtain ⟨⟨z, z1, z2⟩, ⟨w0, w1, w2⟩, ⟨q, q1, q2⟩, ⟨sp, s1, s2⟩, ⟨tl, v1, v2⟩⟩ := hb
  have hto : ∀ J, (∀ a, ¬(f ≤ a ∧ a ≤ f + 11) → J a = I0 a) → (∀ j, j ≠ 1 → J f j = I0 f j) → p_fa f L r dk J M i w p mir t st b u v := fun J => p_fa_fr hf ha
  obtain ⟨k0, k1, k2, k3, k4, k5, k6, k7, k8, k9, k10, k11⟩ := k_fl (L := L) (r := r) (dk := dk) hf
  obtain ⟨r0, r1, r2, r3, r4, r5, r6, r7, r8, r9, r10, r11, r12, r13⟩ := k_fr (r := r) hf
  have h32 : 32 ≤ f := by omega
  have a1 := ha.1
  have tto := ha.2.2.2.2.2.2.2.2.1
  have kt : p_K L dk t = (6, 0) := (p_K_dyn tto.1).trans tto.2.1
  have ht32 : 32 ≤ t := by have := tto.1; omega
  have f1 := hI.2.2.1
  have hS : ∀ c, c < 7 → I (f + 2 + c) k = p_row M i w p mir k c := hI.2.2.2 k (Nat.le_refl _)
  simp (disch := omega) only [r5_0, r5_1, r5_4, r5_5, r5_6, r5_9, r5_10, r5_11, r5_12, r5_13, r5_14, va_rf_some, va_rf_none, cat_int, cat_ref, cat_null, cat_jk, q_cs_nil, q_cs_int, q_cs_ref, q_cs_long, q_tl_some, q_tl_none, nz_0, nz_1, nzn_0, nzn_1, nz_b, true_and, and_true, Nat.reduceLeDiff, Nat.reduceAdd, l_0, l_1, l_2, l_3, l_4, l_5, l_6, l_7, l_8, l_9, l_10, l_11, l_12, l_13, l_14, l_15, l_16, l_17, l_18, l_19, l_20, l_24, l_32, l_40, l_41, l_42, l_43, l_45, l_48, l_57, l_59, l_60, l_61, l_63, l_64, l_80, l_96, l_97, l_99, l_100, l_122, l_160, l_200, l_320, l_640, l_999, l_1000, l_1200, l_4000, l_99999, l_100000, l_100001, l_100002, l_100006, l_100010, l_252645135, l_858993459, l_1431655765, n_cl, n_lt, n_le, n_eq, n_in, n_add, n_mul, n_sub, n_div, n_mod, n_addneg, n_negl, n_nege, Nat.add_sub_cancel, d_ltT, d_ltF, d_leT, d_leF, d_eqT, d_eqF, ↓reduceIte, Nat.reduceLeDiff, Nat.reduceAdd, Nat.reduceMul, Nat.reduceSub, Nat.reduceLT, Nat.zero_add, Nat.add_zero, not_false_eq_true, h32, k0, f1]
  refine s_look hf (hto I hI.1 hI.2.1) hS (by omega) hsh fun I1 hI1 hl1 => ?_
  have hI1a : ∀ a, ¬(f ≤ a ∧ a ≤ f + 11) → I1 a = I0 a := fun a h => (hI1 a (by omega)).trans (hI.1 a h)
  have hI1b : ∀ j, j ≠ 1 → I1 f j = I0 f j := fun j hj => by rw [hI1 f (by omega)]; exact hI.2.1 j hj
  simp (disch := omega) only [r5_17, r5_18, r5_21, r5_22, r5_23, va_rf_some, va_rf_none, cat_int, cat_ref, cat_null, cat_jk, q_cs_nil, q_cs_int, q_cs_ref, q_cs_long, q_tl_some, q_tl_none, nz_0, nz_1, nzn_0, nzn_1, nz_b, true_and, and_true, Nat.reduceLeDiff, Nat.reduceAdd, l_0, l_1, l_2, l_3, l_4, l_5, l_6, l_7, l_8, l_9, l_10, l_11, l_12, l_13, l_14, l_15, l_16, l_17, l_18, l_19, l_20, l_24, l_32, l_40, l_41, l_42, l_43, l_45, l_48, l_57, l_59, l_60, l_61, l_63, l_64, l_80, l_96, l_97, l_99, l_100, l_122, l_160, l_200, l_320, l_640, l_999, l_1000, l_1200, l_4000, l_99999, l_100000, l_100001, l_100002, l_100006, l_100010, l_252645135, l_858993459, l_1431655765, n_cl, n_lt, n_le, n_eq, n_in, n_add, n_mul, n_sub, n_div, n_mod, n_addneg, n_negl, n_nege, Nat.add_sub_cancel, d_ltT, d_ltF, d_leT, d_leF, d_eqT, d_eqF, ↓reduceIte, Nat.reduceLeDiff, Nat.reduceAdd, Nat.reduceMul, Nat.reduceSub, Nat.reduceLT, Nat.zero_add, Nat.add_zero, not_false_eq_true, h32, k0, r11, a1, ht32]
  refine s_said hf (hto I1 hI1a hI1b) hr hl1 (by omega) fun I2 hI2 hl2 => ?_
  have hI2a : ∀ a, ¬(f ≤ a ∧ a ≤ f + 11) → I2 a = I0 a := fun a h => (hI2 a (by omega) (by omega)).trans (hI1a a h)
  have hI2b : ∀ j, j ≠ 1 → I2 f j = I0 f j := fun j hj => by rw [hI2 f (by omega) (by omega)]; exact hI1b j hj
  have hu := s_up (d := d) (c := 0) (L := L) (n := n) (k := k) (S := p_row M i w p mir k) (hto I2 hI2a hI2b).2.2.2.2.2.2.2.2.1 rfl (by omega) (Q := fun rr h' => q_wp (d + 4) c 5 30 [.ref f, .int (Int32.ofNat k), .int (Int32.ofNat (k + 1)), q_jk, q_jk, q_jk, q_jk, q_jk, q_jk, q_jk] (rr.toList ++ []) h' Q)
  simp (disch := omega) only [q_tl_some, r5_26, r5_27, va_rf_some, va_rf_none, cat_int, cat_ref, cat_null, cat_jk, q_cs_nil, q_cs_int, q_cs_ref, q_cs_long, q_tl_some, q_tl_none, nz_0, nz_1, nzn_0, nzn_1, nz_b, true_and, and_true, Nat.reduceLeDiff, Nat.reduceAdd, l_0, l_1, l_2, l_3, l_4, l_5, l_6, l_7, l_8, l_9, l_10, l_11, l_12, l_13, l_14, l_15, l_16, l_17, l_18, l_19, l_20, l_24, l_32, l_40, l_41, l_42, l_43, l_45, l_48, l_57, l_59, l_60, l_61, l_63, l_64, l_80, l_96, l_97, l_99, l_100, l_122, l_160, l_200, l_320, l_640, l_999, l_1000, l_1200, l_4000, l_99999, l_100000, l_100001, l_100002, l_100006, l_100010, l_252645135, l_858993459, l_1431655765, n_cl, n_lt, n_le, n_eq, n_in, n_add, n_mul, n_sub, n_div, n_mod, n_addneg, n_negl, n_nege, Nat.add_sub_cancel, d_ltT, d_ltF, d_leT, d_leF, d_eqT, d_eqF, ↓reduceIte, Nat.reduceLeDiff, Nat.reduceAdd, Nat.reduceMul, Nat.reduceSub, Nat.reduceLT, Nat.zero_add, Nat.add_zero, not_false_eq_true, kt, ht32]
  rw [hu]
  simp (disch := omega) only [q_tl_some, r5_30, r5_31, r5_32, r5_35, r5_36, r5_37, r5_40, va_rf_some, va_rf_none, cat_int, cat_ref, cat_null, cat_jk, q_cs_nil, q_cs_int, q_cs_ref, q_cs_long, q_tl_some, q_tl_none, nz_0, nz_1, nzn_0, nzn_1, nz_b, true_and, and_true, Nat.reduceLeDiff, Nat.reduceAdd, l_0, l_1, l_2, l_3, l_4, l_5, l_6, l_7, l_8, l_9, l_10, l_11, l_12, l_13, l_14, l_15, l_16, l_17, l_18, l_19, l_20, l_24, l_32, l_40, l_41, l_42, l_43, l_45, l_48, l_57, l_59, l_60, l_61, l_63, l_64, l_80, l_96, l_97, l_99, l_100, l_122, l_160, l_200, l_320, l_640, l_999, l_1000, l_1200, l_4000, l_99999, l_100000, l_100001, l_100002, l_100006, l_100010, l_252645135, l_858993459, l_1431655765, n_cl, n_lt, n_le, n_eq, n_in, n_add, n_mul, n_sub, n_div, n_mod, n_addneg, n_negl, n_nege, Nat.add_sub_cancel, d_ltT, d_ltF, d_leT, d_leF, d_eqT, d_eqF, ↓reduceIte, Nat.reduceLeDiff, Nat.reduceAdd, Nat.reduceMul, Nat.reduceSub, Nat.reduceLT, Nat.zero_add, Nat.add_zero, not_false_eq_true, h32, k0, r11, a1, ht32]
  refine s_said hf (hto I2 hI2a hI2b) hr hl2 (by omega) fun I3 hI3 hl3 => ?_
  have hI3a : ∀ a, ¬(f ≤ a ∧ a ≤ f + 11) → I3 a = I0 a := fun a h => (hI3 a (by omega) (by omega)).trans (hI2a a h)
  have hI3b : ∀ j, j ≠ 1 → I3 f j = I0 f j := fun j hj => by rw [hI3 f (by omega) (by omega)]; exact hI2b j hj
  have hu3 : ∀ (d' c' : Nat) (Q' : Option Value → q_H → Prop), _ := fun d' c' Q' => s_turn (d := d') (c := c') (L := L) (n := n) (S := p_row M i w p mir k) (Q := Q') (hto I3 hI3a hI3b).2.2.2.2.2.2.2.2.1 rfl
  simp (disch := omega) only [q_tl_some, r5_40, r5_43, r5_45, r5_46, r5_49, r5_50, r5_51, hu3, va_rf_some, va_rf_none, cat_int, cat_ref, cat_null, cat_jk, q_cs_nil, q_cs_int, q_cs_ref, q_cs_long, q_tl_some, q_tl_none, nz_0, nz_1, nzn_0, nzn_1, nz_b, true_and, and_true, Nat.reduceLeDiff, Nat.reduceAdd, l_0, l_1, l_2, l_3, l_4, l_5, l_6, l_7, l_8, l_9, l_10, l_11, l_12, l_13, l_14, l_15, l_16, l_17, l_18, l_19, l_20, l_24, l_32, l_40, l_41, l_42, l_43, l_45, l_48, l_57, l_59, l_60, l_61, l_63, l_64, l_80, l_96, l_97, l_99, l_100, l_122, l_160, l_200, l_320, l_640, l_999, l_1000, l_1200, l_4000, l_99999, l_100000, l_100001, l_100002, l_100006, l_100010, l_252645135, l_858993459, l_1431655765, n_cl, n_lt, n_le, n_eq, n_in, n_add, n_mul, n_sub, n_div, n_mod, n_addneg, n_negl, n_nege, Nat.add_sub_cancel, d_ltT, d_ltF, d_leT, d_leF, d_eqT, d_eqF, ↓reduceIte, Nat.reduceLeDiff, Nat.reduceAdd, Nat.reduceMul, Nat.reduceSub, Nat.reduceLT, Nat.zero_add, Nat.add_zero, not_false_eq_true, h32, k0, r11, a1, kt, ht32]
  refine s_said hf (hto I3 hI3a hI3b) hr hl3 (by omega) fun I4 hI4 hl4 => ?_
  have hI4a : ∀ a, ¬(f ≤ a ∧ a ≤ f + 11) → I4 a = I0 a := fun a h => (hI4 a (by omega) (by omega)).trans (hI3a a h)
  have hI4b : ∀ j, j ≠ 1 → I4 f j = I0 f j := fun j hj => by rw [hI4 f (by omega) (by omega)]; exact hI3b j hj
  have e4 : ∀ a, a ≠ f + 9 → a ≠ f + 10 → I4 a = I a := fun a h1 h2 => by rw [hI4 a h1 h2, hI3 a h1 h2, hI2 a h1 h2, hI1 a h1]
  have x0 := (e4 (f + 2) (by omega) (by omega)).symm ▸ hS 0 (by omega)
  have x1 := hS 1 (by omega)
  have x2 := hS 2 (by omega)
  have x3 := (hS 3 (by omega)).trans w2
  have x4 := hS 4 (by omega)
  have x5 := (hS 5 (by omega)).trans s2
  have x6 := (hS 6 (by omega)).trans v2
  simp only [Nat.add_assoc, Nat.reduceAdd] at x0 x1 x2 x3 x4 x5 x6
  rw [← e4 (f + 3) (by omega) (by omega)] at x1
  rw [← e4 (f + 4) (by omega) (by omega)] at x2
  rw [← e4 (f + 5) (by omega) (by omega)] at x3
  rw [← e4 (f + 6) (by omega) (by omega)] at x4
  rw [← e4 (f + 7) (by omega) (by omega)] at x5
  rw [← e4 (f + 8) (by omega) (by omega)] at x6
  have y1 : I4 f 1 = Int32.ofNat k := by rw [e4 f (by omega) (by omega)]; exact f1
  have y9 : I4 f 9 = (if mir = true then Int32.ofNat 1 else Int32.ofNat 0) := (hI4b 9 (by decide)).trans ha.2.2.2.2.2.2.2.1
  have yE : ∀ j, j < 16 → I4 0 j = M 136 j := fun j hj => by rw [hI4a 0 (by omega)]; exact hc.1 j hj
  have hu4 : ∀ (d' c' : Nat) (Q' : Option Value → q_H → Prop), _ := fun d' c' Q' => s_less (d := d') (c := c') (L := L) (n := n) (k := k) (S := p_row M i w p mir k) (Q := Q') (hto I4 hI4a hI4b).2.2.2.2.2.2.2.2.1 rfl (by omega)
  have hW : ∀ (c' : Nat) (z : Int32) (Q' : Option Value → q_H → Prop) (J : Nat → Nat → Int32), J f 7 = I4 f 7 ∧ J f 8 = I4 f 8 → q_wp (d + 3) c' 6 0 [.ref f, .int z] [] (p_h L J r dk n) Q' = Q' (some (.int (p_wd M z))) (p_h L J r dk n) := fun c' z Q' J hJ =>
    s_windAt hf (hJ.1.trans ((hI4b 7 (by decide)).trans ha.2.2.2.2.2.1)) (hJ.2.trans ((hI4b 8 (by decide)).trans ha.2.2.2.2.2.2.1))
  have pb := p_turn_b (M := M) (i := i) (S := p_row M i w p mir k) ht.2.2.2.2.2
  have wi : (Int32.ofNat w0).toInt = w0 := n_ti (by omega)
  have fm : p_fm (if mir = true then Int32.ofNat w0 - p_turn M i (p_row M i w p mir k) else Int32.ofNat w0 + p_turn M i (p_row M i w p mir k)) (Int32.ofNat 64) = p_row M i w p mir (k + 1) 3 := by
    show _ = (p_row M i w p mir k 3 + (if mir = true then - p_turn M i (p_row M i w p mir k) else p_turn M i (p_row M i w p mir k)) + 640) % 64
    rw [w2]
    split
    · rw [p_fm64 (by rw [t_sub (by omega) (by omega)]; omega) (by rw [t_sub (by omega) (by omega)]; omega), Int32.sub_eq_add_neg]; rfl
    · rw [p_fm64 (by rw [t_add (by omega) (by omega)]; omega) (by rw [t_add (by omega) (by omega)]; omega)]; rfl
  have h64 : ¬ (Int32.ofNat 64 = (0 : Int32)) := by decide
  simp (disch := first | omega | (refine And.intro ?_ ?_ <;> simp (disch := omega) only [q_up_a])) only [q_tl_some, List.cons_append, List.nil_append, r5_54, r5_55, r5_58, r5_60, r5_61, r5_64, r5_65, r5_66, r5_67, r5_68, r5_70, r5_71, r5_74, r5_75, r5_76, r5_77, r5_78, r5_80, r5_83, r5_85, r5_86, r5_87, r5_88, r5_90, r5_93, r5_95, r5_96, r5_97, r5_99, r5_100, r5_102, r5_103, r5_104, r5_106, r5_107, r5_110, r5_111, r5_112, r5_113, r5_114, r5_117, r5_118, r5_119, r5_120, r5_121, r5_123, r5_125, r5_126, r5_128, r5_129, r5_130, r5_131, r5_132, r5_135, r5_136, r5_137, r5_138, r5_139, r5_142, r5_143, r5_144, r5_145, r5_146, r5_148, r5_150, r5_151, r5_153, r5_154, r5_155, r5_156, r5_157, r5_160, r5_161, r5_162, r5_163, r5_164, r5_167, r5_168, r5_169, r5_170, r5_173, r5_174, r5_175, r5_176, r5_177, r5_178, r5_181, r5_182, r5_183, r5_184, r5_185, r5_186, r5_187, r5_188, r5_189, r5_192, r5_193, r5_194, r5_197, r5_198, r5_199, r5_200, r5_201, r5_204, r5_207, r5_209, r5_211, r5_212, r5_215, r5_217, r5_219, hu4, hW, s_max, c_max0, q_join, b_eq0, ite_not, va_rf_some, va_rf_none, cat_int, cat_ref, cat_null, cat_jk, q_cs_nil, q_cs_int, q_cs_ref, q_cs_long, q_tl_some, q_tl_none, nz_0, nz_1, nzn_0, nzn_1, nz_b, true_and, and_true, Nat.reduceLeDiff, Nat.reduceAdd, l_0, l_1, l_2, l_3, l_4, l_5, l_6, l_7, l_8, l_9, l_10, l_11, l_12, l_13, l_14, l_15, l_16, l_17, l_18, l_19, l_20, l_24, l_32, l_40, l_41, l_42, l_43, l_45, l_48, l_57, l_59, l_60, l_61, l_63, l_64, l_80, l_96, l_97, l_99, l_100, l_122, l_160, l_200, l_320, l_640, l_999, l_1000, l_1200, l_4000, l_99999, l_100000, l_100001, l_100002, l_100006, l_100010, l_252645135, l_858993459, l_1431655765, n_cl, n_lt, n_le, n_eq, n_in, n_add, n_mul, n_sub, n_div, n_mod, n_addneg, n_negl, n_nege, Nat.add_sub_cancel, d_ltT, d_ltF, d_leT, d_leF, d_eqT, d_eqF, ↓reduceIte, Nat.reduceLeDiff, Nat.reduceAdd, Nat.reduceMul, Nat.reduceSub, Nat.reduceLT, Nat.zero_add, Nat.add_zero, not_false_eq_true, h32, pK_0, k0, k1, k2, k3, k4, k5, k6, k7, k8, r0, r1, r2, r3, r4, r5, r6, r7, kt, ht32, y1, y9, yE, x0, x1, x2, x3, x4, x5, x6, q_up_a, q_up_k]
  simp (disch := omega) only [q_tl_some, r5_220, r5_222, r5_225, r5_226, r5_227, r5_230, r5_231, r5_232, r5_233, r5_234, r5_236, r5_238, r5_239, r5_242, r5_243, r5_244, r5_247, r5_248, r5_249, r5_250, r5_251, r5_252, r5_255, r5_256, r5_257, r5_258, r5_259, r5_260, r5_261, r5_264, r5_265, r5_266, r5_269, r5_271, r5_272, r5_273, r5_274, r5_275, r5_278, r5_280, r5_281, r5_282, r5_283, r5_284, r5_285, r5_286, r5_287, r5_290, r5_291, r5_294, s_floorMod, s_max, c_max0, q_join, fm, va_rf_some, va_rf_none, cat_int, cat_ref, cat_null, cat_jk, q_cs_nil, q_cs_int, q_cs_ref, q_cs_long, q_tl_some, q_tl_none, nz_0, nz_1, nzn_0, nzn_1, nz_b, true_and, and_true, Nat.reduceLeDiff, Nat.reduceAdd, l_0, l_1, l_2, l_3, l_4, l_5, l_6, l_7, l_8, l_9, l_10, l_11, l_12, l_13, l_14, l_15, l_16, l_17, l_18, l_19, l_20, l_24, l_32, l_40, l_41, l_42, l_43, l_45, l_48, l_57, l_59, l_60, l_61, l_63, l_64, l_80, l_96, l_97, l_99, l_100, l_122, l_160, l_200, l_320, l_640, l_999, l_1000, l_1200, l_4000, l_99999, l_100000, l_100001, l_100002, l_100006, l_100010, l_252645135, l_858993459, l_1431655765, n_cl, n_lt, n_le, n_eq, n_in, n_add, n_mul, n_sub, n_div, n_mod, n_addneg, n_negl, n_nege, Nat.add_sub_cancel, d_ltT, d_ltF, d_leT, d_leF, d_eqT, d_eqF, ↓reduceIte, Nat.reduceLeDiff, Nat.reduceAdd, Nat.reduceMul, Nat.reduceSub, Nat.reduceLT, Nat.zero_add, Nat.add_zero, not_false_eq_true, h32, k0, k1, k2, k3, k4, k5, k6, k7, k8, r0, r1, r2, r3, r4, r5, r6, r7, x5, x6, q_up_a, q_up_k]
  have g5 : (if Int32.ofNat sp - Int32.ofNat 1 < Int32.ofNat 0 then Int32.ofNat 0 else Int32.ofNat sp - Int32.ofNat 1) = p_row M i w p mir (k + 1) 5 := by
    show _ = (if 0 < p_row M i w p mir k 5 then p_row M i w p mir k 5 - 1 else p_row M i w p mir k 5)
    rw [s2]
    by_cases h0 : sp = 0
    · rw [h0]; decide
    · simp (disch := omega) only [l_0, l_1, l_2, l_3, l_4, l_5, l_6, l_7, l_8, l_9, l_10, l_11, l_12, l_13, l_14, l_15, l_16, l_17, l_18, l_19, l_20, l_24, l_32, l_40, l_41, l_42, l_43, l_45, l_48, l_57, l_59, l_60, l_61, l_63, l_64, l_80, l_96, l_97, l_99, l_100, l_122, l_160, l_200, l_320, l_640, l_999, l_1000, l_1200, l_4000, l_99999, l_100000, l_100001, l_100002, l_100006, l_100010, l_252645135, l_858993459, l_1431655765, n_cl, n_lt, n_le, n_eq, n_in, n_add, n_mul, n_sub, n_div, n_mod, n_addneg, n_negl, n_nege, Nat.add_sub_cancel, d_ltT, d_ltF, d_leT, d_leF, d_eqT, d_eqF, ↓reduceIte, Nat.reduceLeDiff, Nat.reduceAdd, Nat.reduceMul, Nat.reduceSub, Nat.reduceLT, Nat.zero_add, Nat.add_zero, not_false_eq_true]
  have g6 : (if Int32.ofNat tl - (if k % 3 = 2 then Int32.ofNat 1 else Int32.ofNat 0) < 0 then 0 else Int32.ofNat tl - (if k % 3 = 2 then Int32.ofNat 1 else Int32.ofNat 0)) = p_row M i w p mir (k + 1) 6 := by
    show _ = (if k % 3 = 2 ∧ 0 < p_row M i w p mir k 6 then p_row M i w p mir k 6 - 1 else p_row M i w p mir k 6)
    rw [v2]
    by_cases h3 : k % 3 = 2
    · by_cases h0 : tl = 0
      · simp only [h0, h3, ↓reduceIte, true_and]; decide
      · rw [if_pos h3]
        simp (disch := omega) only [l_0, l_1, l_2, l_3, l_4, l_5, l_6, l_7, l_8, l_9, l_10, l_11, l_12, l_13, l_14, l_15, l_16, l_17, l_18, l_19, l_20, l_24, l_32, l_40, l_41, l_42, l_43, l_45, l_48, l_57, l_59, l_60, l_61, l_63, l_64, l_80, l_96, l_97, l_99, l_100, l_122, l_160, l_200, l_320, l_640, l_999, l_1000, l_1200, l_4000, l_99999, l_100000, l_100001, l_100002, l_100006, l_100010, l_252645135, l_858993459, l_1431655765, n_cl, n_lt, n_le, n_eq, n_in, n_add, n_mul, n_sub, n_div, n_mod, n_addneg, n_negl, n_nege, Nat.add_sub_cancel, d_ltT, d_ltF, d_leT, d_leF, d_eqT, d_eqF, ↓reduceIte, Nat.reduceLeDiff, Nat.reduceAdd, Nat.reduceMul, Nat.reduceSub, Nat.reduceLT, Nat.zero_add, Nat.add_zero, not_false_eq_true, h3, true_and]
    · simp (disch := omega) only [l_0, l_1, l_2, l_3, l_4, l_5, l_6, l_7, l_8, l_9, l_10, l_11, l_12, l_13, l_14, l_15, l_16, l_17, l_18, l_19, l_20, l_24, l_32, l_40, l_41, l_42, l_43, l_45, l_48, l_57, l_59, l_60, l_61, l_63, l_64, l_80, l_96, l_97, l_99, l_100, l_122, l_160, l_200, l_320, l_640, l_999, l_1000, l_1200, l_4000, l_99999, l_100000, l_100001, l_100002, l_100006, l_100010, l_252645135, l_858993459, l_1431655765, n_cl, n_lt, n_le, n_eq, n_in, n_add, n_mul, n_sub, n_div, n_mod, n_addneg, n_negl, n_nege, Nat.add_sub_cancel, d_ltT, d_ltF, d_leT, d_leF, d_eqT, d_eqF, ↓reduceIte, Nat.reduceLeDiff, Nat.reduceAdd, Nat.reduceMul, Nat.reduceSub, Nat.reduceLT, Nat.zero_add, Nat.add_zero, not_false_eq_true, h3, false_and, Nat.sub_zero]
  simp (disch := omega) only [r5_295, r5_296, r5_299, r5_300, r5_301, r5_302, r5_305, s_max, c_max0, g6, g5, va_rf_some, va_rf_none, cat_int, cat_ref, cat_null, cat_jk, q_cs_nil, q_cs_int, q_cs_ref, q_cs_long, q_tl_some, q_tl_none, nz_0, nz_1, nzn_0, nzn_1, nz_b, true_and, and_true, Nat.reduceLeDiff, Nat.reduceAdd, n_cl, n_lt, n_le, n_eq, n_in, n_add, n_mul, n_sub, n_div, n_mod, n_addneg, n_negl, n_nege, Nat.add_sub_cancel, d_ltT, d_ltF, d_leT, d_leF, d_eqT, d_eqF, ↓reduceIte, Nat.reduceLeDiff, Nat.reduceAdd, Nat.reduceMul, Nat.reduceSub, Nat.reduceLT, Nat.zero_add, Nat.add_zero, not_false_eq_true, h32, k0, k8]
  have g0 : p_row M i w p mir (k + 1) 0 = p_row M i w p mir k 0 + M 136 (w0 / 4) * p_row M i w p mir k 4 / Int32.ofNat 64 := by
    show p_row M i w p mir k 0 + M 136 (p_row M i w p mir k 3 / 4).toNatClampNeg * p_row M i w p mir k 4 / 64 = _
    simp (disch := omega) only [w2, l_0, l_1, l_2, l_3, l_4, l_5, l_6, l_7, l_8, l_9, l_10, l_11, l_12, l_13, l_14, l_15, l_16, l_17, l_18, l_19, l_20, l_24, l_32, l_40, l_41, l_42, l_43, l_45, l_48, l_57, l_59, l_60, l_61, l_63, l_64, l_80, l_96, l_97, l_99, l_100, l_122, l_160, l_200, l_320, l_640, l_999, l_1000, l_1200, l_4000, l_99999, l_100000, l_100001, l_100002, l_100006, l_100010, l_252645135, l_858993459, l_1431655765, n_cl, n_lt, n_le, n_eq, n_in, n_add, n_mul, n_sub, n_div, n_mod, n_addneg, n_negl, n_nege, Nat.add_sub_cancel, d_ltT, d_ltF, d_leT, d_leF, d_eqT, d_eqF, ↓reduceIte, Nat.reduceLeDiff, Nat.reduceAdd, Nat.reduceMul, Nat.reduceSub, Nat.reduceLT, Nat.zero_add, Nat.add_zero, not_false_eq_true]
  have g1 : p_row M i w p mir (k + 1) 1 = p_row M i w p mir k 1 + M 136 ((w0 / 4 + 12) % 16) * p_row M i w p mir k 4 / Int32.ofNat 64 + p_wd M (p_row M i w p mir k 2) := by
    show p_row M i w p mir k 1 + M 136 ((p_row M i w p mir k 3 / 4 + 12) % 16).toNatClampNeg * p_row M i w p mir k 4 / 64 + p_wd M (p_row M i w p mir k 2) = _
    simp (disch := omega) only [w2, l_0, l_1, l_2, l_3, l_4, l_5, l_6, l_7, l_8, l_9, l_10, l_11, l_12, l_13, l_14, l_15, l_16, l_17, l_18, l_19, l_20, l_24, l_32, l_40, l_41, l_42, l_43, l_45, l_48, l_57, l_59, l_60, l_61, l_63, l_64, l_80, l_96, l_97, l_99, l_100, l_122, l_160, l_200, l_320, l_640, l_999, l_1000, l_1200, l_4000, l_99999, l_100000, l_100001, l_100002, l_100006, l_100010, l_252645135, l_858993459, l_1431655765, n_cl, n_lt, n_le, n_eq, n_in, n_add, n_mul, n_sub, n_div, n_mod, n_addneg, n_negl, n_nege, Nat.add_sub_cancel, d_ltT, d_ltF, d_leT, d_leF, d_eqT, d_eqF, ↓reduceIte, Nat.reduceLeDiff, Nat.reduceAdd, Nat.reduceMul, Nat.reduceSub, Nat.reduceLT, Nat.zero_add, Nat.add_zero, not_false_eq_true]
  refine hQ _ ⟨?_, ?_, ?_, ?_⟩ ?_
  · intro a h
    simp (disch := omega) only [q_up_fa]
    exact hI4a a h
  · intro j hj
    simp (disch := omega) only [q_up_a, q_up_k]
    exact hI4b j hj
  · simp (disch := omega) only [q_up_a, q_up_same]
  · intro j hj cc hcc
    by_cases hjk : j ≤ k
    · rw [q_up_a (by omega)]
      simp (disch := omega) only [q_up_k]
      rw [e4 _ (by omega) (by omega)]
      exact hI.2.2.2 j hjk cc hcc
    · obtain rfl : j = k + 1 := by omega
      have : cc = 0 ∨ cc = 1 ∨ cc = 2 ∨ cc = 3 ∨ cc = 4 ∨ cc = 5 ∨ cc = 6 := by omega
      rcases this with rfl | rfl | rfl | rfl | rfl | rfl | rfl <;> simp (disch := omega) only [q_up_a, q_up_same, Nat.add_assoc, Nat.reduceAdd]
      · exact g0.symm
      · exact g1.symm
      · rfl
      · rfl
  · intro j hj
    simp (disch := omega) only [q_up_a]
    rw [e4 _ (by omega) (by omega)]
    exact hsh j hj
theorem s_go_loop {d c L n f i t st b u v : Nat} {w p : Int32} {mir : Bool} {Q : Option Value → q_H → Prop} {I0 M : Nat → Nat → Int32} {r : Nat → Nat → Option Nat} {dk : Nat → Nat × Nat} (hf : f = 45 ∨ f = 57) (hc : p_con I0 M) (ha : p_fa f L r dk I0 M i w p mir t st b u v) (ht : p_tw M i) (hr : p_rw M) (hw : p_nb w 63) (hp : p_nb p 60)
    (hQ : ∀ I', p_cfl f I0 (p_row M i w p mir) (p_last (p_row M i w p mir)) I' → (∀ j, j < 3 → I' (f + 11) j = p_share M (p_si M i) j) → Q none (p_h L I' r dk n)) :
    ∀ (m k : Nat) (I : Nat → Nat → Int32), k + m = 40 → p_last (p_row M i w p mir) = p_ls (p_row M i w p mir) m k → p_cfl f I0 (p_row M i w p mir) k I → (∀ j, j < 3 → I (f + 11) j = p_share M (p_si M i) j) →
      q_wp (d + 5) c 2 6 [.ref f, .int (Int32.ofNat k)] [] (p_h L I r dk n) Q
  | 0, k, I, hk, hl, hI, hsh => by
    obtain ⟨k0, -⟩ := k_fl (L := L) (r := r) (dk := dk) hf
    rw [r2_6]
    simp (disch := omega) only [r2_7, r2_9, r2_29, va_rf_some, va_rf_none, cat_int, cat_ref, cat_null, cat_jk, q_cs_nil, q_cs_int, q_cs_ref, q_cs_long, q_tl_some, q_tl_none, nz_0, nz_1, nzn_0, nzn_1, nz_b, true_and, and_true, Nat.reduceLeDiff, Nat.reduceAdd, l_0, l_1, l_2, l_3, l_4, l_5, l_6, l_7, l_8, l_9, l_10, l_11, l_12, l_13, l_14, l_15, l_16, l_17, l_18, l_19, l_20, l_24, l_32, l_40, l_41, l_42, l_43, l_45, l_48, l_57, l_59, l_60, l_61, l_63, l_64, l_80, l_96, l_97, l_99, l_100, l_122, l_160, l_200, l_320, l_640, l_999, l_1000, l_1200, l_4000, l_99999, l_100000, l_100001, l_100002, l_100006, l_100010, l_252645135, l_858993459, l_1431655765, n_cl, n_lt, n_le, n_eq, n_in, n_add, n_mul, n_sub, n_div, n_mod, n_addneg, n_negl, n_nege, Nat.add_sub_cancel, d_ltT, d_ltF, d_leT, d_leF, d_eqT, d_eqF, ↓reduceIte, Nat.reduceLeDiff, Nat.reduceAdd, Nat.reduceMul, Nat.reduceSub, Nat.reduceLT, Nat.zero_add, Nat.add_zero, not_false_eq_true]
    exact hQ I (hl ▸ hI) hsh
  | m + 1, k, I, hk, hl, hI, hsh => by
    obtain ⟨k0, -⟩ := k_fl (L := L) (r := r) (dk := dk) hf
    have h32 : 32 ≤ f := by omega
    have hz : I (f + 4) k = p_row M i w p mir k 2 := hI.2.2.2 k (Nat.le_refl _) 2 (by omega)
    have h1 := hI.2.2.1
    have hl' : p_ls (p_row M i w p mir) (m + 1) k = if p_row M i w p mir k 2 = 0 then k else p_ls (p_row M i w p mir) m (k + 1) := rfl
    have hk40 : k < 40 := by omega
    rw [r2_6]
    simp (disch := omega) only [r2_7, r2_9, r2_12, r2_13, r2_16, r2_19, r2_20, r2_29, s_goesOn hf h1 (by omega) hz, va_rf_some, va_rf_none, cat_int, cat_ref, cat_null, cat_jk, q_cs_nil, q_cs_int, q_cs_ref, q_cs_long, q_tl_some, q_tl_none, nz_0, nz_1, nzn_0, nzn_1, nz_b, true_and, and_true, Nat.reduceLeDiff, Nat.reduceAdd, l_0, l_1, l_2, l_3, l_4, l_5, l_6, l_7, l_8, l_9, l_10, l_11, l_12, l_13, l_14, l_15, l_16, l_17, l_18, l_19, l_20, l_24, l_32, l_40, l_41, l_42, l_43, l_45, l_48, l_57, l_59, l_60, l_61, l_63, l_64, l_80, l_96, l_97, l_99, l_100, l_122, l_160, l_200, l_320, l_640, l_999, l_1000, l_1200, l_4000, l_99999, l_100000, l_100001, l_100002, l_100006, l_100010, l_252645135, l_858993459, l_1431655765, n_cl, n_lt, n_le, n_eq, n_in, n_add, n_mul, n_sub, n_div, n_mod, n_addneg, n_negl, n_nege, Nat.add_sub_cancel, d_ltT, d_ltF, d_leT, d_leF, d_eqT, d_eqF, ↓reduceIte, Nat.reduceLeDiff, Nat.reduceAdd, Nat.reduceMul, Nat.reduceSub, Nat.reduceLT, Nat.zero_add, Nat.add_zero, not_false_eq_true, h32, k0, b_eq0, ite_not, hk40, true_and]
    rw [hl'] at hl
    by_cases h0 : p_row M i w p mir k 2 = Int32.ofNat 0
    · rw [if_pos h0, if_pos rfl]
      rw [if_pos (show p_row M i w p mir k 2 = 0 from h0)] at hl
      exact hQ I (hl ▸ hI) hsh
    · rw [if_neg h0, if_neg (by decide)]
      rw [if_neg (show ¬ p_row M i w p mir k 2 = 0 from h0)] at hl
      refine s_step hf hc ha ht hr hw hp hk40 hI hsh fun I' hI' hsh' => ?_
      simp (disch := omega) only [q_tl_none, r2_23, r2_26, va_rf_some, va_rf_none, cat_int, cat_ref, cat_null, cat_jk, q_cs_nil, q_cs_int, q_cs_ref, q_cs_long, q_tl_some, q_tl_none, nz_0, nz_1, nzn_0, nzn_1, nz_b, true_and, and_true, Nat.reduceLeDiff, Nat.reduceAdd, l_0, l_1, l_2, l_3, l_4, l_5, l_6, l_7, l_8, l_9, l_10, l_11, l_12, l_13, l_14, l_15, l_16, l_17, l_18, l_19, l_20, l_24, l_32, l_40, l_41, l_42, l_43, l_45, l_48, l_57, l_59, l_60, l_61, l_63, l_64, l_80, l_96, l_97, l_99, l_100, l_122, l_160, l_200, l_320, l_640, l_999, l_1000, l_1200, l_4000, l_99999, l_100000, l_100001, l_100002, l_100006, l_100010, l_252645135, l_858993459, l_1431655765, n_cl, n_lt, n_le, n_eq, n_in, n_add, n_mul, n_sub, n_div, n_mod, n_addneg, n_negl, n_nege, Nat.add_sub_cancel, d_ltT, d_ltF, d_leT, d_leF, d_eqT, d_eqF, ↓reduceIte, Nat.reduceLeDiff, Nat.reduceAdd, Nat.reduceMul, Nat.reduceSub, Nat.reduceLT, Nat.zero_add, Nat.add_zero, not_false_eq_true]
      exact s_go_loop hf hc ha ht hr hw hp hQ m (k + 1) I' (by omega) hl hI' hsh'
theorem s_go {d c L n f i t st b u v : Nat} {w p : Int32} {mir : Bool} {Q : Option Value → q_H → Prop} {I0 M : Nat → Nat → Int32} {r : Nat → Nat → Option Nat} {dk : Nat → Nat × Nat} (hf : f = 45 ∨ f = 57) (hc : p_con I0 M) (ha : p_fa f L r dk I0 M i w p mir t st b u v) (ht : p_tw M i) (hr : p_rw M) (hs : p_swf M (p_si M i)) (hw : p_nb w 63) (hp : p_nb p 60)
    (hQ : ∀ I', p_cfl f I0 (p_row M i w p mir) (p_last (p_row M i w p mir)) I' → (∀ j, j < 3 → I' (f + 11) j = p_share M (p_si M i) j) → Q none (p_h L I' r dk n)) :
    q_wp (d + 5) c 2 0 [.ref f, q_jk] [] (p_h L I0 r dk n) Q := by
  obtain ⟨k0, -⟩ := k_fl (L := L) (r := r) (dk := dk) hf
  have h32 : 32 ≤ f := by omega
  simp (disch := omega) only [r2_0, r2_1, va_rf_some, va_rf_none, cat_int, cat_ref, cat_null, cat_jk, q_cs_nil, q_cs_int, q_cs_ref, q_cs_long, q_tl_some, q_tl_none, nz_0, nz_1, nzn_0, nzn_1, nz_b, true_and, and_true, Nat.reduceLeDiff, Nat.reduceAdd, h32, k0]
  refine s_begin hf hc ha ht hs fun I1 hI1 hsh => ?_
  simp (disch := omega) only [q_tl_none, r2_4, r2_5, va_rf_some, va_rf_none, cat_int, cat_ref, cat_null, cat_jk, q_cs_nil, q_cs_int, q_cs_ref, q_cs_long, q_tl_some, q_tl_none, nz_0, nz_1, nzn_0, nzn_1, nz_b, true_and, and_true, Nat.reduceLeDiff, Nat.reduceAdd, l_0, l_1, l_2, l_3, l_4, l_5, l_6, l_7, l_8, l_9, l_10, l_11, l_12, l_13, l_14, l_15, l_16, l_17, l_18, l_19, l_20, l_24, l_32, l_40, l_41, l_42, l_43, l_45, l_48, l_57, l_59, l_60, l_61, l_63, l_64, l_80, l_96, l_97, l_99, l_100, l_122, l_160, l_200, l_320, l_640, l_999, l_1000, l_1200, l_4000, l_99999, l_100000, l_100001, l_100002, l_100006, l_100010, l_252645135, l_858993459, l_1431655765, n_cl, n_lt, n_le, n_eq, n_in, n_add, n_mul, n_sub, n_div, n_mod, n_addneg, n_negl, n_nege, Nat.add_sub_cancel, d_ltT, d_ltF, d_leT, d_leF, d_eqT, d_eqF, ↓reduceIte, Nat.reduceLeDiff, Nat.reduceAdd, Nat.reduceMul, Nat.reduceSub, Nat.reduceLT, Nat.zero_add, Nat.add_zero, not_false_eq_true]
  exact s_go_loop hf hc ha ht hr hw hp hQ 40 0 I1 (by omega) rfl hI1 hsh
