/-! the constructor of the model -/
theorem nwJ {J : Nat → Nat → Int64} {m : Nat} (h : J m = fun _ => 0) : q_nw J m (fun _ => 0) = J := by
  funext a
  by_cases e : a = m
  · subst e; rw [nw_s, h]
  · rw [nw_o e]
theorem nwJ0 {J : Nat → Nat → Int64} {m a : Nat} (h : J a = fun _ => 0) : q_nw J m (fun _ => 0) a = fun _ => 0 := by
  unfold q_nw
  split
  · rfl
  · exact h
/-- the model's ints when all is laid -/
def z_i3 (I : Nat → Nat → Int32) : Prop :=
  (∀ a, 137 ≤ a → a ≠ 153 → a ≠ 154 → a ≠ 161 → I a = fun _ => 0) ∧ (I 135 25 = Int32.ofNat 1 ∧ ∀ k, k ≠ 25 → I 135 k = 0) ∧
  (∀ k, k < 16 → I 136 k = q_east.getD k 0) ∧ (∀ k, k < 4 → I 161 k = -Int32.ofNat 1) ∧
  (I 154 0 = Int32.ofNat 0 ∧ I 154 1 = Int32.ofNat 5 ∧ I 154 2 = Int32.ofNat 10 ∧ I 154 3 = Int32.ofNat 13) ∧
  (I 153 0 = Int32.ofNat 2 ∧ I 153 1 = Int32.ofNat 100006 ∧ I 153 2 = Int32.ofNat 17 ∧ I 153 3 = Int32.ofNat 4 ∧ I 153 4 = Int32.ofNat 16 ∧ I 153 5 = Int32.ofNat 100002 ∧ I 153 6 = Int32.ofNat 1 ∧ I 153 7 = Int32.ofNat 100010 ∧ I 153 8 = Int32.ofNat 14 ∧ I 153 9 = Int32.ofNat 16 ∧ I 153 10 = Int32.ofNat 100001 ∧ I 153 11 = Int32.ofNat 4 ∧ I 153 12 = Int32.ofNat 16)
set_option maxRecDepth 100000 in
theorem m_new {L d : Nat} {Q : Option Value → q_H → Prop} {I : Nat → Nat → Int32} {R : Nat → Nat → Option Nat} (hI : ∀ a, 135 ≤ a → I a = fun _ => 0) (hR : ∀ a, 135 ≤ a → R a = fun _ => none)
    (hQ : ∀ I' J' R', z_i3 I' → (∀ a, a < 135 → I' a = I a) → (∀ a k, J' a k = p_J a k) → (∀ a, a < 135 → R' a = R a) → (∀ e, e ∈ z_L2 → R' e.1 e.2.1 = some e.2.2) → Q none (I', J', R', z_K L 179, 179)) :
    q_wp (d + 3) 70 8000 0 [.ref 135] [] (I, z_j, R, z_K L 136, 136) Q := by
  simp (disch := first | omega | exact rfl | (simp (disch := omega) only [q_up_fa, hI, hR]; done) | (simp (disch := omega) only [q_up_fa]; exact rfl)) only [r8000_0, r8000_1, r8000_4, r8000_5, r8000_7, r8000_9, r8000_10, r8000_11, r8000_13, r8000_14, r8000_15, r8000_16, r8000_18, r8000_19, r8000_20, r8000_21, r8000_23, r8000_24, r8000_25, r8000_26, r8000_28, r8000_29, r8000_30, r8000_31, r8000_32, r8000_33, r8000_34, r8000_35, r8000_37, r8000_38, r8000_39, r8000_41, r8000_43, r8000_44, r8000_45, r8000_47, r8000_49, r8000_50, r8000_51, r8000_53, r8000_55, r8000_56, r8000_57, r8000_59, r8000_61, r8000_62, r8000_63, r8000_65, r8000_67, r8000_68, r8000_69, r8000_71, r8000_73, r8000_74, r8000_75, r8000_77, r8000_78, r8000_79, r8000_80, r8000_82, r8000_84, r8000_85, r8000_86, r8000_88, r8000_90, r8000_91, r8000_92, r8000_94, r8000_96, r8000_97, r8000_100, r8000_101, r8000_102, r8000_104, r8000_107, r8000_108, r8000_110, r8000_112, r8000_115, r8000_116, r8000_118, r8000_120, r8000_123, r8000_124, r8000_126, r8000_128, r8000_131, r8000_132, r8000_134, r8000_136, r8000_139, r8000_140, r8000_142, r8000_144, r8000_147, r8000_148, r8000_150, r8000_152, r8000_155, r8000_156, r8000_158, r8000_160, r8000_163, r8000_164, r8000_166, r8000_168, r8000_171, r8000_172, r8000_174, r8000_176, r8000_179, r8000_180, r8000_182, r8000_184, r8000_187, r8000_188, r8000_190, r8000_192, r8000_195, r8000_196, r8000_198, r8000_200, r8000_203, r8000_204, r8000_206, r8000_208, r8000_211, r8000_212, r8000_214, r8000_216, r8000_219, r8000_220, r8000_223, r8000_225, r8000_228, r8000_229, r8000_232, r8000_234, r8000_237, r8000_238, r8000_240, r8000_242, r8000_245, r8000_246, r8000_247, r8000_250, r8000_251, r8000_252, r8000_254, r8000_257, r8000_258, r8000_260, r8000_262, r8000_265, r8000_266, r8000_268, r8000_270, r8000_273, r8000_274, r8000_276, r8000_278, r8000_281, r8000_282, r8000_284, r8000_286, r8000_289, r8000_290, r8000_292, r8000_294, r8000_297, r8000_298, r8000_299, r8000_301, r8000_302, r8000_303, r8000_304, r8000_305, r8000_306, r8000_307, r8000_308, r8000_309, r8000_310, r8000_311, r8000_312, r8000_313, r8000_314, r8000_315, r8000_316, r8000_317, r8000_320, r8000_321, r8000_322, r8000_324, r8000_327, r8000_328, r8000_331, r8000_333, r8000_336, r8000_337, r8000_339, r8000_341, r8000_342, r8000_343, r8000_346, r8000_347, r8000_348, r8000_349, r8000_352, r8000_353, r8000_354, r8000_355, r8000_358, r8000_359, r8000_360, r8000_361, r8000_364, r8000_365, r8000_366, r8000_367, r8000_370, r8000_371, r8000_372, r8000_373, r8000_376, r8000_377, r8000_378, r8000_380, r8000_383, r8000_384, r8000_385, r8000_387, r8000_390, r8000_391, r8000_392, r8000_394, r8000_397, r8000_398, r8000_399, r8000_401, r8000_404, r8000_405, r8000_406, r8000_408, r8000_411, r8000_412, r8000_413, r8000_415, r8000_418, r8000_419, r8000_422, r8000_423, r8000_426, r8000_428, r8000_431, r8000_432, r8000_435, r8000_437, r8000_440, r8000_441, r8000_443, r8000_445, r8000_448, r8000_449, r8000_451, r8000_453, r8000_456, r8000_457, r8000_459, r8000_461, r8000_464, r8000_465, r8000_467, r8000_469, r8000_472, r8000_473, r8000_475, r8000_477, r8000_480, r8000_481, r8000_483, r8000_485, r8000_488, r8000_489, r8000_491, r8000_493, r8000_496, r8000_497, r8000_499, r8000_501, r8000_504, r8000_505, r8000_507, r8000_509, r8000_512, r8000_513, r8000_515, r8000_517, r8000_520, r8000_521, r8000_523, r8000_525, r8000_528, r8000_529, r8000_531, r8000_533, r8000_536, r8000_537, r8000_538, r8000_539, r8000_541, r8000_543, r8000_544, r8000_547, r8000_548, r8000_549, r8000_551, r8000_553, r8000_554, r8000_556, r8000_559, r8000_560, r8000_562, r8000_564, r8000_566, r8000_568, r8000_569, r8000_572, r8000_573, r8000_576, r8000_578, r8000_580, r8000_581, r8000_582, r8000_585, r8000_586, r8000_587, r8000_588, r8000_589, r8000_592, r8000_593, r8000_595, r8000_596, r8000_597, r8000_600, r8000_601, r8000_603, r8000_604, r8001_0, r8001_1, r8001_4, r8001_5, r8001_6, r8001_7, r8001_8, r8001_11, r8001_12, r8001_13, r8001_14, r8001_15, r8001_16, r8001_17, r8001_20, r8001_21, r8001_22, r8001_23, r8001_25, r8001_26, r8001_27, r8001_30, r8001_31, r8001_32, r8001_33, r8001_35, r8001_36, r0_0, r0_1, r0_4, r0_5, r0_7, r0_9, r0_13, r0_16, r0_17, r0_19, r0_21, r0_24, r0_25, r0_28, r0_30, r0_33, r0_34, r0_35, r0_37, r0_40, q_mal, zj_nw, zK_136, zK_137, zK_138, zK_139, zK_140, zK_141, zK_142, zK_143, zK_144, zK_145, zK_146, zK_147, zK_148, zK_149, zK_150, zK_151, zK_152, zK_153, zK_154, zK_155, zK_156, zK_157, zK_158, zK_159, zK_160, zK_161, zK_162, zK_163, zK_164, zK_165, zK_166, zK_167, zK_168, zK_169, zK_170, zK_171, zK_172, zK_173, zK_174, zK_175, zK_176, zK_177, zK_178, nwI, nwIn, nwR, zK_at, q_up_a, q_up_k, q_up_same, q_tl_none, q_tl_some, List.cons_append, List.nil_append, va_rf_some, va_rf_none, cat_int, cat_ref, cat_null, cat_jk, q_cs_nil, q_cs_int, q_cs_ref, q_cs_long, q_tl_some, q_tl_none, nz_0, nz_1, nzn_0, nzn_1, nz_b, true_and, and_true, Nat.reduceLeDiff, Nat.reduceAdd, l_0, l_1, l_2, l_3, l_4, l_5, l_6, l_7, l_8, l_9, l_10, l_11, l_12, l_13, l_14, l_15, l_16, l_17, l_18, l_19, l_20, l_24, l_32, l_40, l_41, l_42, l_43, l_45, l_48, l_57, l_59, l_60, l_61, l_63, l_64, l_80, l_96, l_97, l_99, l_100, l_122, l_160, l_200, l_320, l_640, l_999, l_1000, l_1200, l_4000, l_99999, l_100000, l_100001, l_100002, l_100006, l_100010, l_252645135, l_858993459, l_1431655765, n_cl, n_lt, n_le, n_eq, n_in, n_add, n_mul, n_sub, n_div, n_mod, n_addneg, n_negl, n_nege, Nat.add_sub_cancel, d_ltT, d_ltF, d_leT, d_leF, d_eqT, d_eqF, ↓reduceIte, Nat.reduceLeDiff, Nat.reduceAdd, Nat.reduceMul, Nat.reduceSub, Nat.reduceLT, Nat.zero_add, Nat.add_zero, not_false_eq_true, b_eq0, b_eq1, b_0eq, ite_not, not_true_eq_false, not_false_eq_true, ↓reduceIte, and_self, pK_132, pK_133, pK_134, pK_135, pK_136, pK_137, pK_138, pK_139, pK_140, pK_141, pK_142, pK_143, pK_144, pK_145, pK_146, pK_147, pK_148, pK_149, pK_150, pK_151, pK_152, pK_153, pK_154, pK_155, pK_156, pK_157, pK_158, pK_159, pK_160, pK_161, pK_162, pK_163, pK_164, pK_165, pK_166, pK_167, pK_168, pK_169, pK_170, pK_171, pK_172, pK_173, pK_174, pK_175, pK_176, pK_177, pK_178, pK_135]
  refine hQ _ _ _ ⟨fun a h1 h2 h3 h4 => ?_, ⟨?_, fun k hk => ?_⟩, fun k hk => ?_, fun k hk => ?_, ⟨?_, ?_, ?_, ?_⟩, ⟨?_, ?_, ?_, ?_, ?_, ?_, ?_, ?_, ?_, ?_, ?_, ?_, ?_⟩⟩ (fun a ha => ?_) (fun a k => ?_) (fun a ha => ?_) ?_
  · simp (disch := omega) only [q_up_fa, hI]
  · simp (disch := omega) only [q_up_a, q_up_same]
  · simp (disch := omega) only [q_up_a, q_up_k, hI]
  · have : k = 0 ∨ k = 1 ∨ k = 2 ∨ k = 3 ∨ k = 4 ∨ k = 5 ∨ k = 6 ∨ k = 7 ∨ k = 8 ∨ k = 9 ∨ k = 10 ∨ k = 11 ∨ k = 12 ∨ k = 13 ∨ k = 14 ∨ k = 15 := by omega
    rcases this with rfl | rfl | rfl | rfl | rfl | rfl | rfl | rfl | rfl | rfl | rfl | rfl | rfl | rfl | rfl | rfl <;> simp (disch := omega) only [q_up_a, q_up_k, q_up_same] <;> rfl
  · have : k = 0 ∨ k = 1 ∨ k = 2 ∨ k = 3 := by omega
    rcases this with rfl | rfl | rfl | rfl <;> simp (disch := omega) only [q_up_a, q_up_k, q_up_same]
  · simp (disch := omega) only [q_up_a, q_up_k, q_up_same, hI]
    rfl
  all_goals try (simp (disch := omega) only [q_up_a, q_up_k, q_up_same]; done)
  · simp (disch := omega) only [q_up_fa]
  · by_cases e : a = 164
    · subst e
      simp (disch := omega) only [nw_o]
      unfold p_J
      rw [if_pos rfl]
      have : k = 0 ∨ k = 1 ∨ k = 2 ∨ k = 3 ∨ k = 4 ∨ k = 5 ∨ k = 6 ∨ k = 7 ∨ k = 8 ∨ k = 9 ∨ k = 10 ∨ k = 11 ∨ 12 ≤ k := by omega
      rcases this with rfl | rfl | rfl | rfl | rfl | rfl | rfl | rfl | rfl | rfl | rfl | rfl | hk
      all_goals try (simp (disch := omega) only [q_up_k, q_up_same]; rfl)
      simp (disch := omega) only [q_up_k]
      rw [List.getD_eq_getElem?_getD, List.getElem?_eq_none hk]
      rfl
    · have hJ : ∀ {J : Nat → Nat → Int64}, J a = (fun _ => 0) → J a k = p_J a k := fun h => by
        rw [h]
        unfold p_J
        rw [if_neg e]
      apply hJ
      repeat first | apply nwJ0 | rw [q_up_fa e]
      rfl
  · simp (disch := omega) only [q_up_fa]
  · simp (disch := omega) only [z_L2, List.forall_mem_cons, List.forall_mem_nil, q_up_k, q_up_same, and_self, List.not_mem_nil, false_implies, implies_true]
