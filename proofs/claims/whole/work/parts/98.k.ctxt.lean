/-! text, the class -/
def p_B (M : Nat → Nat → Int32) : Nat → Nat := fun k => (M 152 k).toNatClampNeg
/-- the law t of the model is the three lists -/
def p_ml (M : Nat → Nat → Int32) (t : Nat) (o1 o2 o3 : List Nat) : Prop :=
  (M 154 (4 * t) = Int32.ofNat 0 ∧ M 154 (4 * t + 1) = Int32.ofNat o1.length ∧ M 154 (4 * t + 2) = Int32.ofNat (o1.length + o2.length) ∧ M 154 (4 * t + 3) = Int32.ofNat (o1.length + o2.length + o3.length)) ∧
  y_sk Int32.ofNat (fun k => M 153 (200 * t + k)) o1 ∧ y_sk Int32.ofNat (fun k => M 153 (200 * t + (o1.length + k))) o2 ∧ y_sk Int32.ofNat (fun k => M 153 (200 * t + (o1.length + o2.length + k))) o3
/-- what text may do to the model's memory, ts being the tokens of the tape -/
def p_rel (M : Nat → Nat → Int32) (ts : List (Nat × Nat × Nat)) (M' : Nat → Nat → Int32) : Prop :=
  if p_tx M = 6 then M' = M else
  (∀ a, a ≠ 135 → a ≠ 153 → a ≠ 154 → M' a = M a) ∧ (∀ k, k ≠ 22 → k ≠ 25 → M' 135 k = M 135 k) ∧ M' 135 22 = Int32.ofNat 0 ∧
  (∀ t, t < p_tx M → (∀ k, k < 200 → M' 153 (200 * t + k) = M 153 (200 * t + k)) ∧ ∀ j, j < 4 → M' 154 (4 * t + j) = M 154 (4 * t + j)) ∧
  (match y_tx (p_tz M) ts with
    | .inl _ => M' 135 25 = M 135 25
    | .inr o => M' 135 25 = Int32.ofNat (p_tx M + 1) ∧ p_ml M' (p_tx M) o.1 o.2.1 o.2.2)
def a_text (M : Nat → Nat → Int32) (ts : List (Nat × Nat × Nat)) : Int32 := if p_tx M = 6 then -4 else (match y_tx (p_tz M) ts with
    | .inl f => -100 - Int32.ofNat f
    | .inr _ => Int32.ofNat (p_tx M))
theorem ysk_dec {f f' : Nat → Int32} : ∀ {o : List Nat}, y_sk (fun a => p_dec (Int32.ofNat a)) f o → y_sk Int32.ofNat f' o → ∀ k, k < o.length → f k = p_dec (f' k)
  | [], _, _, k, h => absurd h (Nat.not_lt_zero _)
  | a :: t, h, h', k, hk => by
    by_cases e : k = t.length
    · rw [e, h.1, h'.1]
    · simp only [List.length_cons] at hk
      exact ysk_dec h.2 h'.2 k (by omega)
section
variable {d c L n n' : Nat} {Q : Option Value → q_H → Prop} {I I' M M' : Nat → Nat → Int32} {r r' : Nat → Nat → Option Nat} {dk dk' : Nat → Nat × Nat} {ts : List (Nat × Nat × Nat)}
theorem CR_txt (hW : p_wf M) (hC : p_CR L r dk n I M) (hn : n ≤ n') (hI : ∀ a, a ≠ 32 → a ≠ 42 → a ≠ 44 → a < n → I' a = I a) (h42 : I' 42 1 = Int32.ofNat 0) (h32 : (∀ k, k ≠ 11 → I' 32 k = I 32 k) ∧ I' 32 11 = M' 135 25)
    (hr : ∀ a k, a < n → ¬(a = 35 ∧ k = p_tx M) → r' a k = r a k) (hd : ∀ a, a < n → dk' a = dk a)
    (hM : ∀ a, a ≠ 135 → a ≠ 153 → a ≠ 154 → M' a = M a) (hM5 : ∀ k, k ≠ 22 → k ≠ 25 → M' 135 k = M 135 k) (h22 : M' 135 22 = Int32.ofNat 0) (hold : ∀ t, t < p_tx M → (∀ k, k < 200 → M' 153 (200 * t + k) = M 153 (200 * t + k)) ∧ ∀ j, j < 4 → M' 154 (4 * t + j) = M 154 (4 * t + j))
    (hnew : p_tx M' = p_tx M ∨ (p_tx M' = p_tx M + 1 ∧ ∃ b u v, r' 35 (p_tx M) = some b ∧ (b < n' ∧ u < n' ∧ v < n') ∧ p_lw r' dk' L I' M' (p_tx M) b u v)) : p_CR L r' dk' n' I' M' := by
  have h179 : 179 ≤ n := hC.2.2.2.2.2.2.2.2
  have kd : ∀ a, a < n → p_K L dk' a = p_K L dk a := fun a ha => by unfold p_K; rw [hd a ha]
  obtain ⟨a1, a2, a3, a4, a5, a6, a7, a8, a9, a10⟩ := hC.1
  obtain ⟨t1, t2⟩ := h32
  refine ⟨⟨by rw [t1 9 (by decide), hM5 1 (by decide) (by decide)]; exact a1, by rw [t1 10 (by decide), hM5 10 (by decide) (by decide)]; exact a2, t2, by rw [t1 12 (by decide), hM5 26 (by decide) (by decide)]; exact a4, by rw [t1 13 (by decide), hM5 8 (by decide) (by decide)]; exact a5, by rw [t1 14 (by decide), hM5 9 (by decide) (by decide)]; exact a6, by rw [t1 15 (by decide), hM5 27 (by decide) (by decide)]; exact a7, by rw [t1 16 (by decide), hM5 30 (by decide) (by decide)]; exact a8, by rw [t1 17 (by decide), hM5 31 (by decide) (by decide)]; exact a9, by rw [t1 18 (by decide), hM5 32 (by decide) (by decide)]; exact a10⟩, k2 hC (fun a ha => hI a (by omega) (by omega) (by omega) (by omega)) (fun a ha => hM a (by omega) (by omega) (by omega)), fun i hi => ?_, fun t ht => ?_, k5 hC (fun a ha => hI a (by omega) (by omega) (by omega) (by omega)) (fun a ha => hM a (by omega) (by omega) (by omega)), k6 hC (fun a ha => hI a (by omega) (by omega) (by omega) (by omega)) (fun a ha => hM a (by omega) (by omega) (by omega)) (hM5 18 (by decide) (by decide)) (hM5 29 (by decide) (by decide)), ⟨by rw [h42, h22], fun k hk => ?_⟩, k8 hC (fun a ha => hI a (by omega) (by omega) (by omega) (by omega)) (hM 136 (by decide) (by decide) (by decide)), by omega⟩
  · have etn : p_tn M' = p_tn M := by unfold p_tn; rw [hM5 10 (by decide) (by decide)]
    rw [etn] at hi
    obtain ⟨t, g1, g2, g3⟩ := hC.2.2.1 i hi
    refine ⟨t, by rw [hr 34 i (by omega) (by omega)]; exact g1, by omega, ?_⟩
    have ht := g3.1
    have esi : p_si M' i = p_si M i := by unfold p_si; rw [hM 144 (by decide) (by decide) (by decide)]
    unfold p_to at g3 ⊢
    rw [hI t (by omega) (by omega) (by omega) g2, hd t g2, hr t 1 g2 (by omega), esi, hM 143 (by decide) (by decide) (by decide), hM 145 (by decide) (by decide) (by decide), hM 146 (by decide) (by decide) (by decide), hM 147 (by decide) (by decide) (by decide), hM 148 (by decide) (by decide) (by decide), hM 149 (by decide) (by decide) (by decide)]
    exact g3
  · have old : t < p_tx M → ∃ b u v, r' 35 t = some b ∧ (b < n' ∧ u < n' ∧ v < n') ∧ p_lw r' dk' L I' M' t b u v := fun ht => by
      obtain ⟨b, u, v, g1, g2, g3⟩ := hC.2.2.2.1 t ht
      obtain ⟨o1, o2⟩ := hold t ht
      have h160 := ((hW.2.2.2.2.2.2.1.2.2.2 t ht).1 3 (by decide)).2
      have e3 : p_at M' t 3 = p_at M t 3 := by unfold p_at; rw [o2 3 (by decide)]
      refine ⟨b, u, v, by rw [hr 35 t (by omega) (by omega)]; exact g1, ⟨by omega, by omega, by omega⟩, ?_⟩
      have hb := g3.1
      unfold p_lw at g3 ⊢
      rw [hI u (by omega) (by omega) (by omega) g2.2.1, hI v (by omega) (by omega) (by omega) g2.2.2, kd b g2.1, kd u g2.2.1, kd v g2.2.2, p_R_cs (hr b 0 g2.1 (by omega)), p_R_cs (hr b 1 g2.1 (by omega)), e3]
      obtain ⟨q1, q2, q3, q4, q5, q6, q7, q8⟩ := g3
      refine ⟨q1, q2, q3, q4, q5, q6, fun j hj => by rw [o2 j hj]; exact q7 j hj, fun k hk => ?_⟩
      rw [q8 k hk]
      unfold p_cd
      rw [o1 k (by omega)]
    rcases hnew with h | ⟨h1, h2⟩
    · rw [h] at ht; exact old ht
    · rw [h1] at ht
      by_cases e : t = p_tx M
      · rw [e]; exact h2
      · exact old (by omega)
  · rw [h22] at hk; exact absurd hk (Nat.not_lt_zero _)
theorem tape_T (hW : p_wf M) (hC : p_CR L r dk n I M) : x_T I (p_B M) (p_tz M) := by
  obtain ⟨e, h160⟩ := p_tz_eq hW
  obtain ⟨g1, g2⟩ := hC.2.2.2.2.2.2.1
  refine ⟨g1.trans e, h160, fun k hk => ?_⟩
  obtain ⟨z, hz, ez⟩ := hW.2.2.2.2.2.1.2 k (by omega)
  have eb : p_B M k = z := by unfold p_B; rw [ez, n_cl (by omega)]
  rw [eb]
  refine ⟨hz, ?_⟩
  rw [g2 k (by rw [e, n_cl (by omega)]; exact hk), ez]
theorem c_text {K : Nat} (hK : 48 ≤ K) (hc : 3 ≤ c) (hW : p_wf M) (hC : p_CR L r dk n I M) (hS : x_S I) (hx : x_lx (p_B M) (p_tz M) 0 ts)
    (hQ : ∀ I' r' dk' n', p_cc I I' → (∀ M', p_rel M ts M' → p_CR L r' dk' n' I' M') → Q (some (.int (a_text M ts))) (p_h L I' r' dk' n')) :
    q_wp (K + 11) c 7011 0 [.ref 32, q_jk] [] (p_h L I r dk n) Q := by
  obtain ⟨e, h6⟩ := p_tx_eq hW
  have e11 : I 32 11 = Int32.ofNat (p_tx M) := hC.1.2.2.1.trans e
  have h179 : 179 ≤ n := hC.2.2.2.2.2.2.2.2
  unfold a_text p_rel at hQ
  by_cases h : p_tx M = 6
  · simp only [if_pos h] at hQ
    simp (disch := omega) only [r7011_0, r7011_1, r7011_4, r7011_6, r7011_9, r7011_11, e11, h, b_eq0, b_eq1, b_0eq, ite_not, not_true_eq_false, not_false_eq_true, ↓reduceIte, va_rf_some, va_rf_none, cat_int, cat_ref, cat_null, cat_jk, q_cs_nil, q_cs_int, q_cs_ref, q_cs_long, q_tl_some, q_tl_none, nz_0, nz_1, nzn_0, nzn_1, nz_b, true_and, and_true, Nat.reduceLeDiff, Nat.reduceAdd, l_0, l_1, l_2, l_3, l_4, l_5, l_6, l_7, l_8, l_9, l_10, l_11, l_12, l_13, l_14, l_15, l_16, l_17, l_18, l_19, l_20, l_24, l_32, l_40, l_41, l_42, l_43, l_45, l_48, l_57, l_59, l_60, l_61, l_63, l_64, l_80, l_96, l_97, l_99, l_100, l_122, l_160, l_200, l_320, l_640, l_999, l_1000, l_1200, l_4000, l_99999, l_100000, l_100001, l_100002, l_100006, l_100010, l_252645135, l_858993459, l_1431655765, n_cl, n_lt, n_le, n_eq, n_in, n_add, n_mul, n_sub, n_div, n_mod, n_addneg, n_negl, n_nege, Nat.add_sub_cancel, d_ltT, d_ltF, d_leT, d_leF, d_eqT, d_eqF, ↓reduceIte, Nat.reduceLeDiff, Nat.reduceAdd, Nat.reduceMul, Nat.reduceSub, Nat.reduceLT, Nat.zero_add, Nat.add_zero, not_false_eq_true, pK_32, pK_33, pK_34, pK_35, pK_36, pK_37, pK_38, pK_39, pK_40, pK_41, pK_42, pK_43, pK_44, pR_32_0, pR_32_1, pR_32_2, pR_32_3, pR_32_4, pR_32_5, pR_32_6, pR_32_7, pR_32_8, pR_33_0, pR_33_1, pR_33_2, pR_33_3, pR_36_0, pR_36_1, pR_36_2, pR_36_3, pR_37_0, pR_37_1, pR_37_3, pR_37_4, pR_42_0, pR_42_3, pK_124, pK_125, pK_126, pK_127, pK_128, pK_129, pK_130, pK_131, pK_132, pK_133, pK_134, pR_124_0, pR_126_0, pR_128_0, pR_130_0, pR_134_0, pR_134_1]
    exact hQ I r dk n (fun _ _ => rfl) fun M' h => h ▸ hC
  · simp only [if_neg h] at hQ
    simp (disch := omega) only [r7011_0, r7011_1, r7011_4, r7011_6, r7011_12, r7011_13, r7011_16, e11, hc, b_eq0, b_eq1, b_0eq, ite_not, not_true_eq_false, not_false_eq_true, ↓reduceIte, va_rf_some, va_rf_none, cat_int, cat_ref, cat_null, cat_jk, q_cs_nil, q_cs_int, q_cs_ref, q_cs_long, q_tl_some, q_tl_none, nz_0, nz_1, nzn_0, nzn_1, nz_b, true_and, and_true, Nat.reduceLeDiff, Nat.reduceAdd, l_0, l_1, l_2, l_3, l_4, l_5, l_6, l_7, l_8, l_9, l_10, l_11, l_12, l_13, l_14, l_15, l_16, l_17, l_18, l_19, l_20, l_24, l_32, l_40, l_41, l_42, l_43, l_45, l_48, l_57, l_59, l_60, l_61, l_63, l_64, l_80, l_96, l_97, l_99, l_100, l_122, l_160, l_200, l_320, l_640, l_999, l_1000, l_1200, l_4000, l_99999, l_100000, l_100001, l_100002, l_100006, l_100010, l_252645135, l_858993459, l_1431655765, n_cl, n_lt, n_le, n_eq, n_in, n_add, n_mul, n_sub, n_div, n_mod, n_addneg, n_negl, n_nege, Nat.add_sub_cancel, d_ltT, d_ltF, d_leT, d_leF, d_eqT, d_eqF, ↓reduceIte, Nat.reduceLeDiff, Nat.reduceAdd, Nat.reduceMul, Nat.reduceSub, Nat.reduceLT, Nat.zero_add, Nat.add_zero, not_false_eq_true, pK_32, pK_33, pK_34, pK_35, pK_36, pK_37, pK_38, pK_39, pK_40, pK_41, pK_42, pK_43, pK_44, pR_32_0, pR_32_1, pR_32_2, pR_32_3, pR_32_4, pR_32_5, pR_32_6, pR_32_7, pR_32_8, pR_33_0, pR_33_1, pR_33_2, pR_33_3, pR_36_0, pR_36_1, pR_36_2, pR_36_3, pR_37_0, pR_37_1, pR_37_3, pR_37_4, pR_42_0, pR_42_3, pK_124, pK_125, pK_126, pK_127, pK_128, pK_129, pK_130, pK_131, pK_132, pK_133, pK_134, pR_124_0, pR_126_0, pR_128_0, pR_130_0, pR_134_0, pR_134_1]
    refine s_toLawP (tape_T hW hC) hS hK h179 (by decide) hx (fun I1 f hf f1 f2 f3 => ?_) (fun I1 r1 dk1 len o1 o2 o3 ho f1 f2 f3 f4 f5 f6 f7 f8 f9 f10 f11 => ?_)
    · simp only [hf] at hQ
      have e42 : q_up I1 42 1 (Int32.ofNat 0) 42 2 = Int32.ofNat f := (q_up_k (by decide)).trans f2
      simp (disch := omega) only [q_tl_some, List.cons_append, List.nil_append, r7011_19, r7011_19n, r7011_20, r7011_21, r7011_24, r7011_25, r7011_28, r7011_28n, r7011_29, r7011_29n, r7011_32, r7011_34, r7011_35, r7011_38, r7011_41, r7011_42, e42, b_eq0, b_eq1, b_0eq, ite_not, not_true_eq_false, not_false_eq_true, ↓reduceIte, va_rf_some, va_rf_none, cat_int, cat_ref, cat_null, cat_jk, q_cs_nil, q_cs_int, q_cs_ref, q_cs_long, q_tl_some, q_tl_none, nz_0, nz_1, nzn_0, nzn_1, nz_b, true_and, and_true, Nat.reduceLeDiff, Nat.reduceAdd, l_0, l_1, l_2, l_3, l_4, l_5, l_6, l_7, l_8, l_9, l_10, l_11, l_12, l_13, l_14, l_15, l_16, l_17, l_18, l_19, l_20, l_24, l_32, l_40, l_41, l_42, l_43, l_45, l_48, l_57, l_59, l_60, l_61, l_63, l_64, l_80, l_96, l_97, l_99, l_100, l_122, l_160, l_200, l_320, l_640, l_999, l_1000, l_1200, l_4000, l_99999, l_100000, l_100001, l_100002, l_100006, l_100010, l_252645135, l_858993459, l_1431655765, n_cl, n_lt, n_le, n_eq, n_in, n_add, n_mul, n_sub, n_div, n_mod, n_addneg, n_negl, n_nege, Nat.add_sub_cancel, d_ltT, d_ltF, d_leT, d_leF, d_eqT, d_eqF, ↓reduceIte, Nat.reduceLeDiff, Nat.reduceAdd, Nat.reduceMul, Nat.reduceSub, Nat.reduceLT, Nat.zero_add, Nat.add_zero, not_false_eq_true, pK_32, pK_33, pK_34, pK_35, pK_36, pK_37, pK_38, pK_39, pK_40, pK_41, pK_42, pK_43, pK_44, pR_32_0, pR_32_1, pR_32_2, pR_32_3, pR_32_4, pR_32_5, pR_32_6, pR_32_7, pR_32_8, pR_33_0, pR_33_1, pR_33_2, pR_33_3, pR_36_0, pR_36_1, pR_36_2, pR_36_3, pR_37_0, pR_37_1, pR_37_3, pR_37_4, pR_42_0, pR_42_3, pK_124, pK_125, pK_126, pK_127, pK_128, pK_129, pK_130, pK_131, pK_132, pK_133, pK_134, pR_124_0, pR_126_0, pR_128_0, pR_130_0, pR_134_0, pR_134_1]
      refine hQ _ _ _ _ (fun a ha => by rw [q_up_fa (by omega)]; exact f1.1 a (by omega) (by omega) (by omega)) fun M' hM' => ?_
      obtain ⟨m1, m2, m3, m4, m5⟩ := hM'
      refine CR_txt hW hC (by omega) (fun a b1 b2 b3 b4 => by rw [q_up_fa b2]; exact f1.1 a b2 b3 (by omega)) q_up_same ⟨fun k hk => by rw [q_up_fa (by decide), f1.1 32 (by decide) (by decide) (by omega)], ?_⟩ (fun a k ha _ => congrFun (nw_o (show a ≠ n by omega)) k) (fun a ha => nw_o (by omega)) m1 m2 m3 m4 (.inl (by unfold p_tx; rw [m5]))
      rw [q_up_fa (by decide), f1.1 32 (by decide) (by decide) (by omega), m5]
      exact hC.1.2.2.1
    · simp only [ho] at hQ
      have e11' : I1 32 11 = Int32.ofNat (p_tx M) := by rw [f1 32 (by decide) (by decide) (by omega)]; exact e11
      have n32 : 32 ≤ n + 2 := by omega
      have nlt : n + 2 < n + 3 := by omega
      have kl : p_K L dk1 (n + 2) = (1, 0) := (p_K_dyn (by omega)).trans f11
      simp (disch := omega) only [q_tl_some, List.cons_append, List.nil_append, r7011_19, r7011_19n, r7011_20, r7011_21, r7011_24, r7011_25, r7011_28, r7011_28n, r7011_29, r7011_29n, r7011_43, r7011_44, r7011_47, r7011_48, r7011_51, r7011_51n, r7011_52, r7011_53, r7011_54, r7011_55, r7011_58, r7011_59, r7011_60, r7011_61, r7011_64, n32, q_up_fa, q_up_k, e11', n_add, kl, nlt, pR35, b_eq0, b_eq1, b_0eq, ite_not, not_true_eq_false, not_false_eq_true, ↓reduceIte, va_rf_some, va_rf_none, cat_int, cat_ref, cat_null, cat_jk, q_cs_nil, q_cs_int, q_cs_ref, q_cs_long, q_tl_some, q_tl_none, nz_0, nz_1, nzn_0, nzn_1, nz_b, true_and, and_true, Nat.reduceLeDiff, Nat.reduceAdd, l_0, l_1, l_2, l_3, l_4, l_5, l_6, l_7, l_8, l_9, l_10, l_11, l_12, l_13, l_14, l_15, l_16, l_17, l_18, l_19, l_20, l_24, l_32, l_40, l_41, l_42, l_43, l_45, l_48, l_57, l_59, l_60, l_61, l_63, l_64, l_80, l_96, l_97, l_99, l_100, l_122, l_160, l_200, l_320, l_640, l_999, l_1000, l_1200, l_4000, l_99999, l_100000, l_100001, l_100002, l_100006, l_100010, l_252645135, l_858993459, l_1431655765, n_cl, n_lt, n_le, n_eq, n_in, n_add, n_mul, n_sub, n_div, n_mod, n_addneg, n_negl, n_nege, Nat.add_sub_cancel, d_ltT, d_ltF, d_leT, d_leF, d_eqT, d_eqF, ↓reduceIte, Nat.reduceLeDiff, Nat.reduceAdd, Nat.reduceMul, Nat.reduceSub, Nat.reduceLT, Nat.zero_add, Nat.add_zero, not_false_eq_true, pK_32, pK_33, pK_34, pK_35, pK_36, pK_37, pK_38, pK_39, pK_40, pK_41, pK_42, pK_43, pK_44, pR_32_0, pR_32_1, pR_32_2, pR_32_3, pR_32_4, pR_32_5, pR_32_6, pR_32_7, pR_32_8, pR_33_0, pR_33_1, pR_33_2, pR_33_3, pR_36_0, pR_36_1, pR_36_2, pR_36_3, pR_37_0, pR_37_1, pR_37_3, pR_37_4, pR_42_0, pR_42_3, pK_124, pK_125, pK_126, pK_127, pK_128, pK_129, pK_130, pK_131, pK_132, pK_133, pK_134, pR_124_0, pR_126_0, pR_128_0, pR_130_0, pR_134_0, pR_134_1, and_self]
      refine hQ _ _ _ _ (fun a ha => by rw [q_up_fa (by omega), q_up_fa (by omega)]; exact f1 a (by omega) (by omega) (by omega)) fun M' hM' => ?_
      obtain ⟨m1, m2, m3, m4, m5, m6, m7, m8, m9⟩ := hM'
      have etx : p_tx M' = p_tx M + 1 := by unfold p_tx; rw [m5, n_cl (by omega)]; rfl
      refine CR_txt hW hC (by omega) (fun a b1 b2 b3 b4 => by rw [q_up_fa b1, q_up_fa b2]; exact f1 a b2 b3 b4) (by rw [q_up_fa (by decide), q_up_same]) ⟨fun k hk => by rw [q_up_k hk, q_up_fa (by decide), f1 32 (by decide) (by decide) (by omega)], by rw [q_up_same, m5]⟩ (fun a k ha hk => ?_) f8 m1 m2 m3 m4 (.inr ⟨etx, n + 2, n + 1, n, q_up_same, ⟨by omega, by omega, by omega⟩, ?_⟩)
      · by_cases e35 : a = 35
        · subst e35
          rw [q_up_k fun h => hk ⟨rfl, h⟩]
          exact f5 35 k ha
        · rw [q_up_a e35]; exact f5 a k ha
      · obtain ⟨⟨v0, v1, v2, v3⟩, v4, v5, v6, v7⟩ := f3
        obtain ⟨w0, w1, w2, w3⟩ := m6
        have at3 : p_at M' (p_tx M) 3 = o1.length + o2.length + o3.length := by unfold p_at; rw [w3, n_cl (by omega)]
        have oI : ∀ a, a ≠ 32 → a ≠ 42 → q_up (q_up I1 42 1 (Int32.ofNat 0)) 32 11 (Int32.ofNat (p_tx M + 1)) a = I1 a := fun a h1 h2 => by rw [q_up_fa h1, q_up_fa h2]
        unfold p_lw
        rw [oI n (by omega) (by omega), oI (n + 1) (by omega) (by omega), at3]
        refine ⟨⟨.inr (by omega), .inr (by omega), .inr (by omega)⟩, kl, ⟨len, (p_K_dyn (by omega)).trans f10, by omega⟩, (p_K_dyn (by omega)).trans f9, ?_, ?_, fun j hj => ?_, fun k hk => ?_⟩
        · rw [p_R_dyn (by omega), q_up_a (by omega)]; exact f6
        · rw [p_R_dyn (by omega), q_up_a (by omega)]; exact f7
        · have : j = 0 ∨ j = 1 ∨ j = 2 ∨ j = 3 := by omega
          rcases this with rfl | rfl | rfl | rfl
          · rw [v0, Nat.add_zero, w0]
          · rw [v1, w1]
          · rw [v2, w2]
          · rw [v3, w3]
        · unfold p_cd
          by_cases k1 : k < o1.length
          · exact ysk_dec v5 m7 k k1
          · by_cases k2 : k < o1.length + o2.length
            · have := ysk_dec v6 m8 (k - o1.length) (by omega)
              rw [show o1.length + (k - o1.length) = k by omega] at this
              exact this
            · have := ysk_dec v7 m9 (k - (o1.length + o2.length)) (by omega)
              rw [show o1.length + o2.length + (k - (o1.length + o2.length)) = k by omega] at this
              exact this
end
