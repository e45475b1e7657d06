/-! the class reads an E: its state, the small steps -/
def x_va (T : Nat) : Bool := decide (T ≤ 7 ∨ T = 40 ∨ T = 41 ∨ T = 59 ∨ T = 43 ∨ T = 45 ∨ T = 42 ∨ T = 60 ∨ T = 61)
theorem ct_all : ∀ T : Fin 62, ∀ v : Fin 6, ∀ T' : Fin 62, x_va T.1 = true → (T.1 = 3 → v.1 ≤ 2) → x_va T'.1 = true → T'.1 ≠ 2 → T'.1 ≠ 3 → (x_ct T.1 v.1 = x_ct T'.1 0 ↔ T.1 = T'.1) := by decide +kernel
theorem ct_nm : ∀ T : Fin 62, ∀ v : Fin 6, x_va T.1 = true → ((x_ct T.1 v.1 ≤ -1 ∧ -6 ≤ x_ct T.1 v.1) ↔ T.1 = 2) := by decide +kernel
theorem ct_key : ∀ T : Fin 62, ∀ v : Fin 6, ∀ j : Fin 3, x_va T.1 = true → (T.1 = 3 → v.1 ≤ 2) → (x_ct T.1 v.1 = -Int32.ofNat 40 - Int32.ofNat j.1 ↔ (T.1 = 3 ∧ v.1 = j.1)) := by decide +kernel
theorem ct_0 {v : Nat} : x_ct 0 v = -30 := if_pos rfl
theorem ct_v0 {T v : Nat} (h2 : T ≠ 2) (h3 : T ≠ 3) : x_ct T v = x_ct T 0 := by
  unfold x_ct
  rw [if_neg h2, if_neg h3, if_neg h2, if_neg h3]
theorem ok_va {t : Nat × Nat × Nat} (h : x_ok t) : x_va t.1 = true ∧ t.1 < 62 := ⟨decide_eq_true h.2.2.2, by have := h.2.2.2; omega⟩
theorem ct_is {t : Nat × Nat × Nat} (h : x_ok t) {T' : Nat} (hT : x_va T' = true) (h62 : T' < 62) (h2 : T' ≠ 2) (h3 : T' ≠ 3) : (x_ct t.1 t.2.1 = x_ct T' 0) = (t.1 = T') := by
  obtain ⟨v1, v2⟩ := ok_va h
  refine propext ?_
  by_cases h23 : t.1 = 2 ∨ t.1 = 3
  · have hv : t.2.1 ≤ 5 ∧ (t.1 = 3 → t.2.1 ≤ 2) := by
      refine ⟨?_, h.2.2.1⟩
      rcases h23 with e | e
      · exact h.2.1 e
      · have := h.2.2.1 e; omega
    exact ct_all ⟨t.1, v2⟩ ⟨t.2.1, by omega⟩ ⟨T', h62⟩ v1 hv.2 hT h2 h3
  · rw [ct_v0 (by omega) (by omega)]
    exact ct_all ⟨t.1, v2⟩ ⟨0, by omega⟩ ⟨T', h62⟩ v1 (fun _ => Nat.zero_le 2) hT h2 h3
theorem ct_name {t : Nat × Nat × Nat} (h : x_ok t) : (x_ct t.1 t.2.1 ≤ -1 ∧ -6 ≤ x_ct t.1 t.2.1) = (t.1 = 2) := by
  obtain ⟨v1, v2⟩ := ok_va h
  refine propext ?_
  by_cases h23 : t.1 = 2 ∨ t.1 = 3
  · have hv : t.2.1 ≤ 5 := by
      rcases h23 with e | e
      · exact h.2.1 e
      · have := h.2.2.1 e; omega
    exact ct_nm ⟨t.1, v2⟩ ⟨t.2.1, by omega⟩ v1
  · rw [ct_v0 (by omega) (by omega)]
    exact ct_nm ⟨t.1, v2⟩ ⟨0, by omega⟩ v1
theorem ct_keyis {t : Nat × Nat × Nat} (h : x_ok t) {j : Nat} (hj : j < 3) : (x_ct t.1 t.2.1 = -Int32.ofNat 40 - Int32.ofNat j) = (t.1 = 3 ∧ t.2.1 = j) := by
  obtain ⟨v1, v2⟩ := ok_va h
  refine propext ?_
  by_cases h23 : t.1 = 2 ∨ t.1 = 3
  · have hv : t.2.1 ≤ 5 := by
      rcases h23 with e | e
      · exact h.2.1 e
      · have := h.2.2.1 e; omega
    exact ct_key ⟨t.1, v2⟩ ⟨t.2.1, by omega⟩ ⟨j, hj⟩ v1 h.2.2.1
  · rw [ct_v0 (by omega) (by omega)]
    refine (ct_key ⟨t.1, v2⟩ ⟨0, by omega⟩ ⟨j, hj⟩ v1 (fun _ => Nat.zero_le 2)).trans ?_
    show (t.1 = 3 ∧ 0 = j) ↔ _
    omega
/-- the numbers of a list, the last first, stand at f as g says -/
def y_sk (g : Nat → Int32) (f : Nat → Int32) : List Nat → Prop
  | [] => True
  | a :: t => f t.length = g a ∧ y_sk g f t
theorem ysk_up {g f f' : Nat → Int32} : ∀ {t : List Nat} {m : Nat}, t.length ≤ m → (∀ k, k < m → f' k = f k) → y_sk g f t → y_sk g f' t
  | [], _, _, _, _ => trivial
  | a :: t, m, hm, hf, h => by
    simp only [List.length_cons] at hm
    exact ⟨(hf _ (by omega)).trans h.1, ysk_up (by omega) hf h.2⟩
def x_hd (ts : List (Nat × Nat × Nat)) : Nat × Nat × Nat := (x_k ts, x_v ts, x_b 0 ts)
/-- the class's reader: ts is to come, out is put from s on -/
def y_st (B : Nat → Nat) (N s : Nat) (I0 I : Nat → Nat → Int32) (ts : List (Nat × Nat × Nat)) (out : List Nat) : Prop :=
  (∀ a, a ≠ 42 → a ≠ 44 → I a = I0 a) ∧ I 42 1 = I0 42 1 ∧ I 42 2 = -Int32.ofNat 1 ∧ I 42 4 = Int32.ofNat (s + out.length) ∧ I 42 6 = x_ct (x_k ts) (x_v ts) ∧ I 42 7 = Int32.ofNat (x_b N ts) ∧ (x_k ts = 1 → I 42 8 = Int32.ofNat (x_v ts)) ∧
  (∃ p, I 42 5 = Int32.ofNat p ∧ p ≤ N ∧ x_lx B N p ts.tail ∧ (ts ≠ [] → x_b N ts < p)) ∧ y_sk (fun a => p_dec (Int32.ofNat a)) (fun k => I 44 (s + k)) out ∧ (∀ k, k < s → I 44 k = I0 44 k) ∧ x_ok (x_hd ts)
/-- a fault was found -/
def y_fs (I0 I : Nat → Nat → Int32) (f : Nat) : Prop :=
  (∀ a, a ≠ 42 → a ≠ 44 → I a = I0 a) ∧ I 42 1 = I0 42 1 ∧ I 42 2 = Int32.ofNat f ∧ f ≤ 160 ∧ ∃ z, z ≤ 160 ∧ I 42 4 = Int32.ofNat z
theorem st_b {B : Nat → Nat} {N s : Nat} {I0 I : Nat → Nat → Int32} {ts : List (Nat × Nat × Nat)} {out : List Nat} (h : y_st B N s I0 I ts out) : x_b N ts ≤ N ∧ (ts ≠ [] → x_b N ts < N) := by
  obtain ⟨p, -, h2, -, h4⟩ := h.2.2.2.2.2.2.2.1
  cases ts with
  | nil => exact ⟨Nat.le_refl _, fun h => absurd rfl h⟩
  | cons t ts =>
    have := h4 (by simp)
    exact ⟨by omega, fun _ => by omega⟩
section
variable {d c L n : Nat} {Q : Option Value → q_H → Prop} {I I0 : Nat → Nat → Int32} {zJ : Nat → Nat → Int64} {zR : Nat → Nat → Option Nat} {zK : Nat → Nat × Nat} {B : Nat → Nat} {N s : Nat} {ts : List (Nat × Nat × Nat)} {out : List Nat}
theorem s_emitS (hz : y_z zR zK) (hI : y_st B N s I0 I ts out) (h160 : s + out.length < 160) {a : Nat} {v : Int32} (hv : v = p_dec (Int32.ofNat a)) (hQ : ∀ I', y_st B N s I0 I' ts (a :: out) → Q none (z_h zJ zR zK I' n)) : q_wp (d + 1) c 3009 0 [.ref 42, .int v] [] (z_h zJ zR zK I n) Q := by
  obtain ⟨g1, g2, g3, g4, g5, g6, g7, ⟨p, g8⟩, g9, g10, g11⟩ := hI
  simp (disch := omega) only [r3009_0, r3009_1, r3009_4, r3009_7, r3009_10, r3009_11, r3009_14, r3009_15, r3009_16, r3009_19, r3009_20, r3009_21, r3009_22, r3009_25, r3009_26, r3009_27, g4, q_up_fa, va_rf_some, va_rf_none, cat_int, cat_ref, cat_null, cat_jk, q_cs_nil, q_cs_int, q_cs_ref, q_cs_long, q_tl_some, q_tl_none, nz_0, nz_1, nzn_0, nzn_1, nz_b, true_and, and_true, Nat.reduceLeDiff, Nat.reduceAdd, l_0, l_1, l_2, l_3, l_4, l_5, l_6, l_7, l_8, l_9, l_10, l_11, l_12, l_13, l_14, l_15, l_16, l_17, l_18, l_19, l_20, l_24, l_32, l_40, l_41, l_42, l_43, l_45, l_48, l_57, l_59, l_60, l_61, l_63, l_64, l_80, l_96, l_97, l_99, l_100, l_122, l_160, l_200, l_320, l_640, l_999, l_1000, l_1200, l_4000, l_99999, l_100000, l_100001, l_100002, l_100006, l_100010, l_252645135, l_858993459, l_1431655765, n_cl, n_lt, n_le, n_eq, n_in, n_add, n_mul, n_sub, n_div, n_mod, n_addneg, n_negl, n_nege, Nat.add_sub_cancel, d_ltT, d_ltF, d_leT, d_leF, d_eqT, d_eqF, ↓reduceIte, Nat.reduceLeDiff, Nat.reduceAdd, Nat.reduceMul, Nat.reduceSub, Nat.reduceLT, Nat.zero_add, Nat.add_zero, not_false_eq_true, hz.1, hz.2.1, hz.2.2.1, hz.2.2.2.1, hz.2.2.2.2.1]
  refine hQ _ ⟨fun x h1 h2 => ?_, ?_, ?_, ?_, ?_, ?_, fun h => ?_, ⟨p, ?_, g8.2⟩, ⟨?_, ?_⟩, fun k hk => ?_, g11⟩
  · rw [q_up_fa h2, q_up_fa h1]; exact g1 x h1 h2
  · rw [q_up_fa (by decide), q_up_k (by decide)]; exact g2
  · rw [q_up_fa (by decide), q_up_k (by decide)]; exact g3
  · rw [q_up_fa (by decide), q_up_same]; rfl
  · rw [q_up_fa (by decide), q_up_k (by decide)]; exact g5
  · rw [q_up_fa (by decide), q_up_k (by decide)]; exact g6
  · rw [q_up_fa (by decide), q_up_k (by decide)]; exact g7 h
  · rw [q_up_fa (by decide), q_up_k (by decide)]; exact g8.1
  · show q_up _ 44 (s + out.length) v 44 (s + out.length) = _
    rw [q_up_same]; exact hv
  · refine ysk_up (Nat.le_refl _) (fun k hk => ?_) g9
    show q_up _ 44 (s + out.length) v 44 (s + k) = I 44 (s + k)
    rw [q_up_k (by omega), q_up_fa (by decide)]
  · rw [q_up_k (by omega), q_up_fa (by decide)]; exact g10 k hk
theorem s_emitF (hz : y_z zR zK) {f : Nat} (hI : y_fs I0 I f) {v : Int32} (hQ : ∀ I', y_fs I0 I' f → Q none (z_h zJ zR zK I' n)) : q_wp (d + 1) c 3009 0 [.ref 42, .int v] [] (z_h zJ zR zK I n) Q := by
  obtain ⟨g1, g2, g3, gf, z, hzz, g4⟩ := hI
  by_cases h : z < 160
  · simp (disch := omega) only [r3009_0, r3009_1, r3009_4, r3009_7, r3009_10, r3009_11, r3009_14, r3009_15, r3009_16, r3009_19, r3009_20, r3009_21, r3009_22, r3009_25, r3009_26, r3009_27, g4, q_up_fa, va_rf_some, va_rf_none, cat_int, cat_ref, cat_null, cat_jk, q_cs_nil, q_cs_int, q_cs_ref, q_cs_long, q_tl_some, q_tl_none, nz_0, nz_1, nzn_0, nzn_1, nz_b, true_and, and_true, Nat.reduceLeDiff, Nat.reduceAdd, l_0, l_1, l_2, l_3, l_4, l_5, l_6, l_7, l_8, l_9, l_10, l_11, l_12, l_13, l_14, l_15, l_16, l_17, l_18, l_19, l_20, l_24, l_32, l_40, l_41, l_42, l_43, l_45, l_48, l_57, l_59, l_60, l_61, l_63, l_64, l_80, l_96, l_97, l_99, l_100, l_122, l_160, l_200, l_320, l_640, l_999, l_1000, l_1200, l_4000, l_99999, l_100000, l_100001, l_100002, l_100006, l_100010, l_252645135, l_858993459, l_1431655765, n_cl, n_lt, n_le, n_eq, n_in, n_add, n_mul, n_sub, n_div, n_mod, n_addneg, n_negl, n_nege, Nat.add_sub_cancel, d_ltT, d_ltF, d_leT, d_leF, d_eqT, d_eqF, ↓reduceIte, Nat.reduceLeDiff, Nat.reduceAdd, Nat.reduceMul, Nat.reduceSub, Nat.reduceLT, Nat.zero_add, Nat.add_zero, not_false_eq_true, hz.1, hz.2.1, hz.2.2.1, hz.2.2.2.1, hz.2.2.2.2.1]
    refine hQ _ ⟨fun x h1 h2 => ?_, ?_, ?_, gf, z + 1, by omega, ?_⟩
    · rw [q_up_fa h2, q_up_fa h1]; exact g1 x h1 h2
    · rw [q_up_fa (by decide), q_up_k (by decide)]; exact g2
    · rw [q_up_fa (by decide), q_up_k (by decide)]; exact g3
    · rw [q_up_fa (by decide), q_up_same]
  · simp (disch := omega) only [r3009_0, r3009_1, r3009_4, r3009_7, r3009_10, r3009_11, r3009_14, r3009_15, r3009_16, r3009_19, r3009_20, r3009_21, r3009_22, r3009_25, r3009_26, r3009_27, g4, va_rf_some, va_rf_none, cat_int, cat_ref, cat_null, cat_jk, q_cs_nil, q_cs_int, q_cs_ref, q_cs_long, q_tl_some, q_tl_none, nz_0, nz_1, nzn_0, nzn_1, nz_b, true_and, and_true, Nat.reduceLeDiff, Nat.reduceAdd, l_0, l_1, l_2, l_3, l_4, l_5, l_6, l_7, l_8, l_9, l_10, l_11, l_12, l_13, l_14, l_15, l_16, l_17, l_18, l_19, l_20, l_24, l_32, l_40, l_41, l_42, l_43, l_45, l_48, l_57, l_59, l_60, l_61, l_63, l_64, l_80, l_96, l_97, l_99, l_100, l_122, l_160, l_200, l_320, l_640, l_999, l_1000, l_1200, l_4000, l_99999, l_100000, l_100001, l_100002, l_100006, l_100010, l_252645135, l_858993459, l_1431655765, n_cl, n_lt, n_le, n_eq, n_in, n_add, n_mul, n_sub, n_div, n_mod, n_addneg, n_negl, n_nege, Nat.add_sub_cancel, d_ltT, d_ltF, d_leT, d_leF, d_eqT, d_eqF, ↓reduceIte, Nat.reduceLeDiff, Nat.reduceAdd, Nat.reduceMul, Nat.reduceSub, Nat.reduceLT, Nat.zero_add, Nat.add_zero, not_false_eq_true, hz.1, hz.2.1, hz.2.2.1, hz.2.2.2.1, hz.2.2.2.2.1]
    exact hQ I ⟨g1, g2, g3, gf, z, hzz, g4⟩
theorem s_fail (hz : y_z zR zK) (hI : y_st B N s I0 I ts out) (hN : N ≤ 160) (h160 : s + out.length ≤ 160) (hQ : ∀ I', y_fs I0 I' (x_b N ts) → Q none (z_h zJ zR zK I' n)) : q_wp (d + 1) c 3008 0 [.ref 42] [] (z_h zJ zR zK I n) Q := by
  have hb := (st_b hI).1
  obtain ⟨g1, g2, g3, g4, g5, g6, -⟩ := hI
  simp (disch := omega) only [r3008_0, r3008_1, r3008_4, r3008_5, r3008_8, r3008_9, r3008_10, r3008_13, r3008_16, g3, g6, va_rf_some, va_rf_none, cat_int, cat_ref, cat_null, cat_jk, q_cs_nil, q_cs_int, q_cs_ref, q_cs_long, q_tl_some, q_tl_none, nz_0, nz_1, nzn_0, nzn_1, nz_b, true_and, and_true, Nat.reduceLeDiff, Nat.reduceAdd, l_0, l_1, l_2, l_3, l_4, l_5, l_6, l_7, l_8, l_9, l_10, l_11, l_12, l_13, l_14, l_15, l_16, l_17, l_18, l_19, l_20, l_24, l_32, l_40, l_41, l_42, l_43, l_45, l_48, l_57, l_59, l_60, l_61, l_63, l_64, l_80, l_96, l_97, l_99, l_100, l_122, l_160, l_200, l_320, l_640, l_999, l_1000, l_1200, l_4000, l_99999, l_100000, l_100001, l_100002, l_100006, l_100010, l_252645135, l_858993459, l_1431655765, n_cl, n_lt, n_le, n_eq, n_in, n_add, n_mul, n_sub, n_div, n_mod, n_addneg, n_negl, n_nege, Nat.add_sub_cancel, d_ltT, d_ltF, d_leT, d_leF, d_eqT, d_eqF, ↓reduceIte, Nat.reduceLeDiff, Nat.reduceAdd, Nat.reduceMul, Nat.reduceSub, Nat.reduceLT, Nat.zero_add, Nat.add_zero, not_false_eq_true, hz.1, hz.2.1, hz.2.2.1, hz.2.2.2.1, hz.2.2.2.2.1]
  refine hQ _ ⟨fun x h1 h2 => ?_, ?_, q_up_same, by omega, s + out.length, h160, ?_⟩
  · rw [q_up_fa h1]; exact g1 x h1 h2
  · rw [q_up_k (by decide)]; exact g2
  · rw [q_up_k (by decide)]; exact g4
theorem s_advS (hz : y_z zR zK) (hT : x_T I0 B N) (hS : x_S I0) {t : Nat × Nat × Nat} (hI : y_st B N s I0 I (t :: ts) out) (hQ : ∀ I', y_st B N s I0 I' ts out → x_b N (t :: ts) < x_b N ts → Q none (z_h zJ zR zK I' n)) : q_wp (d + 8) c 3010 0 [.ref 42] [] (z_h zJ zR zK I n) Q := by
  obtain ⟨g1, g2, g3, g4, g5, g6, g7, ⟨p, g8, g9, g10, g11⟩, g12, g13, g14⟩ := hI
  have gl : x_b N (t :: ts) < p := g11 (by simp)
  refine s_adv hz (xT_f hT g2 (g1 43 (by decide) (by decide))) (fun i hi j => by rw [g1 _ (by omega) (by omega)]; exact hS i hi j) g9 g8 fun I' f1 f2 f3 f4 f5 => ?_
  obtain ⟨k1, k2, k3, k4, k5⟩ := xtk_ok B g9
  obtain ⟨h1, h2, h3, h4⟩ := xlx_hd (ts := ts) g10 g9
  rw [h2] at f4 k2
  have e6 : I' 42 6 = x_ct (x_k ts) (x_v ts) := by
    rw [f3, h1]
    cases ts with
    | nil => exact ct_0.trans ct_0.symm
    | cons a b => rw [(h3 (by simp)).1]
  refine hQ I' ⟨fun a a1 a2 => (f1.1 a a1).trans (g1 a a1 a2), (f1.2 1 (by decide)).trans g2, (f1.2 2 (by decide)).trans g3, (f1.2 4 (by decide)).trans g4, e6, f4, fun h => ?_, ⟨_, f2, k3, ?_, fun h => ?_⟩, ?_, fun k hk => by rw [f1.1 44 (by decide)]; exact g13 k hk, ?_⟩ (by omega)
  · have hne : ts ≠ [] := fun e => by rw [e] at h; exact absurd h (by decide)
    rw [f5 (h1.trans h), (h3 hne).1]
  · cases ts with
    | nil => exact h4 rfl
    | cons a b => exact (h3 (by simp)).2
  · rw [← h2]
    refine k5 fun e => ?_
    cases ts with
    | nil => exact h rfl
    | cons a b => exact g10.2.1 ((g10.1 ▸ e))
  · rw [f1.1 44 (by decide)]; exact g12
  · cases ts with
    | nil => exact ⟨fun h => absurd (show 0 = 1 from h) (by decide), fun h => absurd (show 0 = 2 from h) (by decide), fun h => absurd (show 0 = 3 from h) (by decide), .inl (Nat.zero_le 7)⟩
    | cons a b => rw [g10.1] at k1; exact k1
end
