/-! the class reads a text: toLaw -/
section
variable {d c L n : Nat} {Q : Option Value → q_H → Prop} {I I0 J : Nat → Nat → Int32} {zJ : Nat → Nat → Int64} {zR : Nat → Nat → Option Nat} {zK : Nat → Nat × Nat} {B : Nat → Nat} {N s : Nat} {ts : List (Nat × Nat × Nat)} {out : List Nat}
theorem s_adv0 (hz : y_z zR zK) (hT : x_T J B N) (hS : x_S J) {p : Nat} (hp : p ≤ N) (h5 : J 42 5 = Int32.ofNat p) (h2 : J 42 2 = -Int32.ofNat 1) (h4 : J 42 4 = Int32.ofNat s) (hx : x_lx B N p ts)
    (hQ : ∀ I', (∀ a, a ≠ 42 → I' a = J a) → I' 42 1 = J 42 1 → y_st B N s I' I' ts [] → Q none (z_h zJ zR zK I' n)) : q_wp (d + 8) c 3010 0 [.ref 42] [] (z_h zJ zR zK J n) Q := by
  refine s_adv hz hT hS hp h5 fun I' f1 f2 f3 f4 f5 => ?_
  obtain ⟨k1, k2, k3, k4, k5⟩ := xtk_ok B hp
  obtain ⟨h1', h2', h3', h4'⟩ := xlx_hd (ts := ts) hx hp
  rw [h2'] at f4 k2
  have e6 : I' 42 6 = x_ct (x_k ts) (x_v ts) := by
    rw [f3, h1']
    cases ts with
    | nil => exact ct_0.trans ct_0.symm
    | cons a b => rw [(h3' (by simp)).1]
  refine hQ I' f1.1 (f1.2 1 (by decide)) ⟨fun _ _ _ => rfl, rfl, (f1.2 2 (by decide)).trans h2, (f1.2 4 (by decide)).trans h4, e6, f4, fun h => ?_, ⟨_, f2, k3, ?_, fun h => ?_⟩, trivial, fun _ _ => rfl, ?_⟩
  · have hne : ts ≠ [] := fun e => by rw [e] at h; exact absurd h (by decide)
    rw [f5 (h1'.trans h), (h3' hne).1]
  · cases ts with
    | nil => exact h4' rfl
    | cons a b => exact (h3' (by simp)).2
  · rw [← h2']
    refine k5 fun e => ?_
    cases ts with
    | nil => exact h rfl
    | cons a b => exact hx.2.1 (hx.1 ▸ e)
  · cases ts with
    | nil => exact ⟨fun h => absurd (show 0 = 1 from h) (by decide), fun h => absurd (show 0 = 2 from h) (by decide), fun h => absurd (show 0 = 3 from h) (by decide), .inl (Nat.zero_le 7)⟩
    | cons a b => rw [hx.1] at k1; exact k1
/-- behind the end there is nothing -/
theorem s_advE (hz : y_z zR zK) (hT : x_T I0 B N) (hS : x_S I0) (hI : y_st B N s I0 I [] out) (hQ : ∀ I', y_st B N s I0 I' [] out → Q none (z_h zJ zR zK I' n)) : q_wp (d + 8) c 3010 0 [.ref 42] [] (z_h zJ zR zK I n) Q := by
  obtain ⟨g1, g2, g3, g4, g5, g6, g7, ⟨p, g8, g9, g10, g11⟩, g12, g13, g14⟩ := hI
  refine s_adv0 hz (s := s + out.length) (xT_f hT g2 (g1 43 (by decide) (by decide))) (fun i hi j => by rw [g1 _ (by omega) (by omega)]; exact hS i hi j) g9 g8 g3 g4 g10 fun I' f1 f2 h => ?_
  obtain ⟨-, -, k3, k4, k5, k6, k7, k8, -, -, k11⟩ := h
  exact hQ I' ⟨fun a a1 a2 => (f1 a a1).trans (g1 a a1 a2), f2.trans g2, k3, k4, k5, k6, k7, k8, by rw [f1 44 (by decide)]; exact g12, fun k hk => by rw [f1 44 (by decide)]; exact g13 k hk, k11⟩
/-- what reading leaves as it was -/
def y_fr (n : Nat) (I I' : Nat → Nat → Int32) : Prop := (∀ a, a ≠ 42 → a ≠ 44 → a ≠ n → I' a = I a) ∧ I' 42 1 = I 42 1
theorem fr_st {I1 : Nat → Nat → Int32} {v j : Nat} {x : Int32} (hv : 45 ≤ v) (h : y_st B N s (q_up I v j x) I1 ts out) : y_fr v I I1 ∧ I1 v = q_up I v j x v :=
  ⟨⟨fun a a1 a2 a3 => by rw [h.1 a a1 a2, q_up_fa a3], by rw [h.2.1, q_up_fa (by omega)]⟩, h.1 v (by omega) (by omega)⟩
theorem fr_fs {I1 : Nat → Nat → Int32} {v j f : Nat} {x : Int32} (hv : v ≠ 42) (h : y_fs (q_up I v j x) I1 f) : y_fr v I I1 ∧ I1 42 2 = Int32.ofNat f ∧ f ≤ 160 :=
  ⟨⟨fun a a1 a2 a3 => by rw [h.1 a a1 a2, q_up_fa a3], by rw [h.2.1, q_up_fa (Ne.symm hv)]⟩, h.2.2.1, h.2.2.2.1⟩
theorem fr_trans {v : Nat} {I1 I2 I3 : Nat → Nat → Int32} (h : y_fr v I1 I2) (h' : y_fr v I2 I3) : y_fr v I1 I3 := ⟨fun a a1 a2 a3 => (h'.1 a a1 a2 a3).trans (h.1 a a1 a2 a3), h'.2.trans h.2⟩
theorem fr_T {v : Nat} (hv : 45 ≤ v) {I1 : Nat → Nat → Int32} (h : y_fr v I I1) (hT : x_T I B N) (hS : x_S I) : x_T I1 B N ∧ x_S I1 :=
  ⟨xT_f hT h.2 (h.1 43 (by decide) (by decide) (by omega)), fun i hi k => by rw [h.1 _ (by omega) (by omega) (by omega)]; exact hS i hi k⟩
/-- the law that was made: its words at u, its parts at v -/
def y_lw (I' : Nat → Nat → Int32) (u v : Nat) (o1 o2 o3 : List Nat) : Prop :=
  (I' v 0 = Int32.ofNat 0 ∧ I' v 1 = Int32.ofNat o1.length ∧ I' v 2 = Int32.ofNat (o1.length + o2.length) ∧ I' v 3 = Int32.ofNat (o1.length + o2.length + o3.length)) ∧ o1.length + o2.length + o3.length ≤ 160 ∧
  y_sk (fun a => p_dec (Int32.ofNat a)) (I' u) o1 ∧ y_sk (fun a => p_dec (Int32.ofNat a)) (fun k => I' u (o1.length + k)) o2 ∧ y_sk (fun a => p_dec (Int32.ofNat a)) (fun k => I' u (o1.length + o2.length + k)) o3
theorem ysk_ext {g f f' : Nat → Int32} : ∀ {t : List Nat}, (∀ k, k < t.length → f' k = f k) → y_sk g f t → y_sk g f' t := fun hf h => ysk_up (Nat.le_refl _) hf h
theorem s_toLaw (hz : y_z zR zK) (hT : x_T I B N) (hS : x_S I) {K : Nat} (hK : 48 ≤ K) (hn : 45 ≤ n) (hc : 3 ≤ c) (hx : x_lx B N 0 ts)
    (hF : ∀ I' f, y_tx N ts = .inl f → y_fr n I I' → I' 42 2 = Int32.ofNat f → f ≤ 160 → Q (some .null) (z_h (q_nw zJ n fun _ => 0) (q_nw zR n fun _ => none) (q_nw zK n (100, 4)) I' (n + 1)))
    (hO : ∀ I' len o1 o2 o3, y_tx N ts = .inr (o1, o2, o3) → (∀ a, a ≠ 42 → a ≠ 44 → a < n → I' a = I a) → I' 42 1 = I 42 1 → y_lw I' (n + 1) n o1 o2 o3 → len = o1.length + o2.length + o3.length → (∀ a, n + 2 < a → I' a = I a) → Q (some (.ref (n + 2))) (z_h (q_nw (q_nw (q_nw zJ n fun _ => 0) (n + 1) fun _ => 0) (n + 1 + 1) fun _ => 0) (q_up (q_up (q_nw (q_nw (q_nw zR n fun _ => none) (n + 1) fun _ => none) (n + 1 + 1) fun _ => none) (n + 1 + 1) 0 (some (n + 1))) (n + 1 + 1) 1 (some n)) (q_nw (q_nw (q_nw zK n (100, 4)) (n + 1) (100, len)) (n + 1 + 1) (1, 0)) I' (n + 1 + 1 + 1))) :
    q_wp (K + 10) c 3002 0 [.ref 42, q_jk, q_jk] [] (z_h zJ zR zK I n) Q := by
  have hN160 := hT.2.1
  have hc1 : 1 ≤ c := by omega
  simp (disch := omega) only [r3002_0, r3002_1, r3002_3, r3002_3n, r3002_4, r3002_5, r3002_6, r3002_9, r3002_10, r3002_11, r3002_14, r3002_15, r3002_16, r3002_19, r3002_20, q_mal, hc1, q_up_fa, nw_o, va_rf_some, va_rf_none, cat_int, cat_ref, cat_null, cat_jk, q_cs_nil, q_cs_int, q_cs_ref, q_cs_long, q_tl_some, q_tl_none, nz_0, nz_1, nzn_0, nzn_1, nz_b, true_and, and_true, Nat.reduceLeDiff, Nat.reduceAdd, l_0, l_1, l_2, l_3, l_4, l_5, l_6, l_7, l_8, l_9, l_10, l_11, l_12, l_13, l_14, l_15, l_16, l_17, l_18, l_19, l_20, l_24, l_32, l_40, l_41, l_42, l_43, l_45, l_48, l_57, l_59, l_60, l_61, l_63, l_64, l_80, l_96, l_97, l_99, l_100, l_122, l_160, l_200, l_320, l_640, l_999, l_1000, l_1200, l_4000, l_99999, l_100000, l_100001, l_100002, l_100006, l_100010, l_252645135, l_858993459, l_1431655765, n_cl, n_lt, n_le, n_eq, n_in, n_add, n_mul, n_sub, n_div, n_mod, n_addneg, n_negl, n_nege, Nat.add_sub_cancel, d_ltT, d_ltF, d_leT, d_leF, d_eqT, d_eqF, ↓reduceIte, Nat.reduceLeDiff, Nat.reduceAdd, Nat.reduceMul, Nat.reduceSub, Nat.reduceLT, Nat.zero_add, Nat.add_zero, not_false_eq_true, hz.1, hz.2.1, hz.2.2.1, hz.2.2.2.1, hz.2.2.2.2.1, and_self]
  generalize hJ : q_up (q_up (q_up (q_nw I n fun _ => Int32.ofNat 0) 42 5 (Int32.ofNat 0)) 42 4 (Int32.ofNat 0)) 42 2 (-Int32.ofNat 1) = J
  generalize hj1 : (q_nw zJ n fun _ => 0) = zJ1 at hF hO ⊢
  generalize hr1 : (q_nw zR n fun _ => none) = zR1 at hF hO ⊢
  generalize hd1 : q_nw zK n (100, 4) = zK1 at hF hO ⊢
  have kn : zK1 n = (100, 4) := by rw [← hd1]; exact nw_s
  have hz : y_z zR1 zK1 := by
    obtain ⟨z1, z2, z3, z4, z5, z6⟩ := hz
    rw [← hr1, ← hd1]
    refine ⟨by rw [nw_o (by omega)]; exact z1, by rw [nw_o (by omega)]; exact z2, by rw [nw_o (by omega)]; exact z3, by rw [nw_o (by omega)]; exact z4, by rw [nw_o (by omega)]; exact z5, fun a a1 a2 => by rw [nw_o (by omega)]; exact z6 a a1 a2⟩
  have jo : ∀ a, a ≠ 42 → a ≠ n → J a = I a := fun a h1 h2 => by rw [← hJ, q_up_fa h1, q_up_fa h1, q_up_fa h1, nw_o h2]
  have j1 : J 42 1 = I 42 1 := by rw [← hJ]; simp (disch := omega) only [q_up_k, nw_o]
  have frJ : y_fr n I J := ⟨fun a a1 _ a3 => jo a a1 a3, j1⟩
  obtain ⟨TJ, SJ⟩ := fr_T hn frJ hT hS
  refine s_adv0 hz (s := 0) (ts := ts) TJ SJ (Nat.zero_le _) (by rw [← hJ]; simp (disch := omega) only [q_up_k, q_up_same]) (by rw [← hJ]; exact q_up_same) (by rw [← hJ]; simp (disch := omega) only [q_up_k, q_up_same]) hx fun I1 f1 f2 h1 => ?_
  have fr1 : y_fr n I I1 := fr_trans frJ ⟨fun a a1 _ _ => f1 a a1, f2⟩
  obtain ⟨T1, S1⟩ := fr_T hn fr1 hT hS
  simp (disch := omega) only [q_tl_none, r3002_23, r3002_24, va_rf_some, va_rf_none, cat_int, cat_ref, cat_null, cat_jk, q_cs_nil, q_cs_int, q_cs_ref, q_cs_long, q_tl_some, q_tl_none, nz_0, nz_1, nzn_0, nzn_1, nz_b, true_and, and_true, Nat.reduceLeDiff, Nat.reduceAdd, l_0, l_1, l_2, l_3, l_4, l_5, l_6, l_7, l_8, l_9, l_10, l_11, l_12, l_13, l_14, l_15, l_16, l_17, l_18, l_19, l_20, l_24, l_32, l_40, l_41, l_42, l_43, l_45, l_48, l_57, l_59, l_60, l_61, l_63, l_64, l_80, l_96, l_97, l_99, l_100, l_122, l_160, l_200, l_320, l_640, l_999, l_1000, l_1200, l_4000, l_99999, l_100000, l_100001, l_100002, l_100006, l_100010, l_252645135, l_858993459, l_1431655765, n_cl, n_lt, n_le, n_eq, n_in, n_add, n_mul, n_sub, n_div, n_mod, n_addneg, n_negl, n_nege, Nat.add_sub_cancel, d_ltT, d_ltF, d_leT, d_leF, d_eqT, d_eqF, ↓reduceIte, Nat.reduceLeDiff, Nat.reduceAdd, Nat.reduceMul, Nat.reduceSub, Nat.reduceLT, Nat.zero_add, Nat.add_zero, not_false_eq_true, hz.1, hz.2.1, hz.2.2.1, hz.2.2.2.1, hz.2.2.2.2.1]
  have yt : ∀ f, y_ky N 0 ts = .inl f → y_tx N ts = .inl f := fun f h => by unfold y_tx; rw [h]
  refine s_part hz T1 S1 hK hn kn (by decide) h1 (Nat.zero_le _) (fun I' f hf h => ?_) (fun I2 t1 o1 e1 h2 hs1 => ?_)
  · obtain ⟨z1, z2, z3⟩ := fr_fs (by omega) h
    exact hF I' f (yt f hf) (fr_trans fr1 z1) z2 z3
  have yt1 : ∀ f, y_ky N 1 t1 = .inl f → y_tx N ts = .inl f := fun f h => by simp only [y_tx, e1, h]
  obtain ⟨z1, z2⟩ := fr_st hn h2
  have fr2 : y_fr n I I2 := fr_trans fr1 z1
  obtain ⟨T2, S2⟩ := fr_T hn fr2 hT hS
  refine s_part hz T2 S2 hK hn kn (by decide) (st_rebase h2) hs1 (fun I' f hf h => ?_) (fun I3 t2 o2 e2 h3 hs2 => ?_)
  · obtain ⟨y1, y2, y3⟩ := fr_fs (by omega) h
    exact hF I' f (yt1 f hf) (fr_trans fr2 y1) y2 y3
  have yt2 : ∀ f, y_ky N 2 t2 = .inl f → y_tx N ts = .inl f := fun f h => by simp only [y_tx, e1, e2, h]
  obtain ⟨z3, z4⟩ := fr_st hn h3
  have fr3 : y_fr n I I3 := fr_trans fr2 z3
  obtain ⟨T3, S3⟩ := fr_T hn fr3 hT hS
  refine s_part hz T3 S3 hK hn kn (by decide) (st_rebase h3) hs2 (fun I' f hf h => ?_) (fun I4 t3 o3 e3 h4 hs3 => ?_)
  · obtain ⟨y1, y2, y3⟩ := fr_fs (by omega) h
    exact hF I' f (yt2 f hf) (fr_trans fr3 y1) y2 y3
  have yt3 : y_tx N ts = y_e N t3 o1 o2 o3 := by simp only [y_tx, e1, e2, e3]
  obtain ⟨z5, z6⟩ := fr_st hn h4
  have fr4 : y_fr n I I4 := fr_trans fr3 z5
  have hb4 := (st_b h4).1
  rw [r3002_25]
  simp (disch := omega) only [r3002_26, r3002_27, r3002_71, r3002_72, r3002_74, va_rf_some, va_rf_none, cat_int, cat_ref, cat_null, cat_jk, q_cs_nil, q_cs_int, q_cs_ref, q_cs_long, q_tl_some, q_tl_none, nz_0, nz_1, nzn_0, nzn_1, nz_b, true_and, and_true, Nat.reduceLeDiff, Nat.reduceAdd, l_0, l_1, l_2, l_3, l_4, l_5, l_6, l_7, l_8, l_9, l_10, l_11, l_12, l_13, l_14, l_15, l_16, l_17, l_18, l_19, l_20, l_24, l_32, l_40, l_41, l_42, l_43, l_45, l_48, l_57, l_59, l_60, l_61, l_63, l_64, l_80, l_96, l_97, l_99, l_100, l_122, l_160, l_200, l_320, l_640, l_999, l_1000, l_1200, l_4000, l_99999, l_100000, l_100001, l_100002, l_100006, l_100010, l_252645135, l_858993459, l_1431655765, n_cl, n_lt, n_le, n_eq, n_in, n_add, n_mul, n_sub, n_div, n_mod, n_addneg, n_negl, n_nege, Nat.add_sub_cancel, d_ltT, d_ltF, d_leT, d_leF, d_eqT, d_eqF, ↓reduceIte, Nat.reduceLeDiff, Nat.reduceAdd, Nat.reduceMul, Nat.reduceSub, Nat.reduceLT, Nat.zero_add, Nat.add_zero, not_false_eq_true, hz.1, hz.2.1, hz.2.2.1, hz.2.2.2.1, hz.2.2.2.2.1]
  obtain ⟨-, -, -, -, -, -, -, -, -, -, -, -, c30⟩ := ct_eqs h4.2.2.2.2.2.2.2.2.2.2
  obtain ⟨T3', S3'⟩ := fr_T hn (⟨fun a _ _ a3 => q_up_fa a3, by rw [q_up_fa (by omega)]⟩ : y_fr n I3 (q_up I3 n 2 (Int32.ofNat (0 + o1.length + o2.length)))) T3 S3
  by_cases hk : x_k t3 = 0
  · have yt4 : y_tx N ts = .inr (o1, o2, o3) := yt3.trans (if_pos hk)
    have g3 := h4.2.2.1
    have g5 := h4.2.2.2.2.1.trans (of_eq_true (c30.trans (eq_true hk)))
    have adv : ∀ (Q' : Option Value → q_H → Prop) (c' : Nat), (∀ I5 ts5, y_st B N (0 + o1.length + o2.length) (q_up I3 n 2 (Int32.ofNat (0 + o1.length + o2.length))) I5 ts5 o3 → Q' none (z_h zJ1 zR1 zK1 I5 (n + 1))) → q_wp (K + 8) c' 3010 0 [.ref 42] [] (z_h zJ1 zR1 zK1 I4 (n + 1)) Q' := fun Q' c' h => by
      cases t3 with
      | nil => exact s_advE hz T3' S3' h4 fun I5 h5 => h I5 _ h5
      | cons t tr => exact s_advS hz T3' S3' h4 fun I5 h5 _ => h I5 _ h5
    simp (disch := omega) only [r3007_0, r3007_1, r3007_4, r3007_5, r3007_8, r3007_9, r3007_10, r3007_13, r3007_14, r3007_17, r3007_18, g3, g5, va_rf_some, va_rf_none, cat_int, cat_ref, cat_null, cat_jk, q_cs_nil, q_cs_int, q_cs_ref, q_cs_long, q_tl_some, q_tl_none, nz_0, nz_1, nzn_0, nzn_1, nz_b, true_and, and_true, Nat.reduceLeDiff, Nat.reduceAdd, l_0, l_1, l_2, l_3, l_4, l_5, l_6, l_7, l_8, l_9, l_10, l_11, l_12, l_13, l_14, l_15, l_16, l_17, l_18, l_19, l_20, l_24, l_32, l_40, l_41, l_42, l_43, l_45, l_48, l_57, l_59, l_60, l_61, l_63, l_64, l_80, l_96, l_97, l_99, l_100, l_122, l_160, l_200, l_320, l_640, l_999, l_1000, l_1200, l_4000, l_99999, l_100000, l_100001, l_100002, l_100006, l_100010, l_252645135, l_858993459, l_1431655765, n_cl, n_lt, n_le, n_eq, n_in, n_add, n_mul, n_sub, n_div, n_mod, n_addneg, n_negl, n_nege, Nat.add_sub_cancel, d_ltT, d_ltF, d_leT, d_leF, d_eqT, d_eqF, ↓reduceIte, Nat.reduceLeDiff, Nat.reduceAdd, Nat.reduceMul, Nat.reduceSub, Nat.reduceLT, Nat.zero_add, Nat.add_zero, not_false_eq_true, hz.1, hz.2.1, hz.2.2.1, hz.2.2.2.1, hz.2.2.2.2.1]
    refine adv _ _ fun I5 ts5 h5 => ?_
    simp (disch := omega) only [q_tl_none, r3007_21, r3007_24, r3007_25, r3007_28, va_rf_some, va_rf_none, cat_int, cat_ref, cat_null, cat_jk, q_cs_nil, q_cs_int, q_cs_ref, q_cs_long, q_tl_some, q_tl_none, nz_0, nz_1, nzn_0, nzn_1, nz_b, true_and, and_true, Nat.reduceLeDiff, Nat.reduceAdd, l_0, l_1, l_2, l_3, l_4, l_5, l_6, l_7, l_8, l_9, l_10, l_11, l_12, l_13, l_14, l_15, l_16, l_17, l_18, l_19, l_20, l_24, l_32, l_40, l_41, l_42, l_43, l_45, l_48, l_57, l_59, l_60, l_61, l_63, l_64, l_80, l_96, l_97, l_99, l_100, l_122, l_160, l_200, l_320, l_640, l_999, l_1000, l_1200, l_4000, l_99999, l_100000, l_100001, l_100002, l_100006, l_100010, l_252645135, l_858993459, l_1431655765, n_cl, n_lt, n_le, n_eq, n_in, n_add, n_mul, n_sub, n_div, n_mod, n_addneg, n_negl, n_nege, Nat.add_sub_cancel, d_ltT, d_ltF, d_leT, d_leF, d_eqT, d_eqF, ↓reduceIte, Nat.reduceLeDiff, Nat.reduceAdd, Nat.reduceMul, Nat.reduceSub, Nat.reduceLT, Nat.zero_add, Nat.add_zero, not_false_eq_true, hz.1, hz.2.1, hz.2.2.1, hz.2.2.2.1, hz.2.2.2.2.1]
    obtain ⟨m1, m2, m3, m4, -, -, -, -, m9, m10, -⟩ := h5
    have n5 : I5 n = q_up I3 n 2 (Int32.ofNat (0 + o1.length + o2.length)) n := m1 n (by omega) (by omega)
    obtain ⟨len, hl⟩ : ∃ len, len = o1.length + o2.length + o3.length := ⟨_, rfl⟩
    have hlen : len ≤ 160 := by omega
    have m4' : I5 42 4 = Int32.ofNat len := by rw [m4, hl, Nat.zero_add]
    have n32 : 32 ≤ n + 1 + 1 := by omega
    simp (disch := omega) only [q_tl_none, r3002_77, r3002_78, r3002_81, r3002_82, r3002_85, r3002_86, r3002_86n, r3002_87, r3002_87n, r3002_88, r3002_89, r3002_90, r3002_93, r3002_94, r3002_95, r3002_98, r3002_100, r3002_100n, r3002_101, r3002_102, r3002_105, r3002_106, r3002_106n, r3002_107, r3002_108, r3002_109, r3002_112, r3002_115, r3002_118, r3002_119, r3002_119n, r3002_120, r3002_120n, r3002_121, r3002_124, r3002_124n, r1000_0, r1000_1, r1000_4, r1000_5, r1000_5n, r1000_6, r1000_9, r1000_10, r1000_10n, r1000_11, r1000_14, q_mal, m3, m4', kn, hc1, q_up_fa, nw_o, nw_s, n32, va_rf_some, va_rf_none, cat_int, cat_ref, cat_null, cat_jk, q_cs_nil, q_cs_int, q_cs_ref, q_cs_long, q_tl_some, q_tl_none, nz_0, nz_1, nzn_0, nzn_1, nz_b, true_and, and_true, Nat.reduceLeDiff, Nat.reduceAdd, l_0, l_1, l_2, l_3, l_4, l_5, l_6, l_7, l_8, l_9, l_10, l_11, l_12, l_13, l_14, l_15, l_16, l_17, l_18, l_19, l_20, l_24, l_32, l_40, l_41, l_42, l_43, l_45, l_48, l_57, l_59, l_60, l_61, l_63, l_64, l_80, l_96, l_97, l_99, l_100, l_122, l_160, l_200, l_320, l_640, l_999, l_1000, l_1200, l_4000, l_99999, l_100000, l_100001, l_100002, l_100006, l_100010, l_252645135, l_858993459, l_1431655765, n_cl, n_lt, n_le, n_eq, n_in, n_add, n_mul, n_sub, n_div, n_mod, n_addneg, n_negl, n_nege, Nat.add_sub_cancel, d_ltT, d_ltF, d_leT, d_leF, d_eqT, d_eqF, ↓reduceIte, Nat.reduceLeDiff, Nat.reduceAdd, Nat.reduceMul, Nat.reduceSub, Nat.reduceLT, Nat.zero_add, Nat.add_zero, not_false_eq_true, hz.1, hz.2.1, hz.2.2.1, hz.2.2.2.1, hz.2.2.2.2.1, and_self]
    refine hO _ len o1 o2 o3 yt4 (fun a a1 a2 a3 => ?_) ?_ ⟨⟨?_, ?_, ?_, ?_⟩, by omega, ?_, ?_, ?_⟩ hl (fun a ha => ?_)
    · simp (disch := omega) only [nw_o, q_up_fa]
      rw [m1 a a1 a2, q_up_fa (by omega)]
      exact fr3.1 a a1 a2 (by omega)
    · simp (disch := omega) only [nw_o, q_up_fa]
      rw [m2, q_up_fa (by omega)]
      exact fr3.2
    · simp (disch := omega) only [nw_o, q_up_k]
      rw [n5, q_up_k (by decide), z4, q_up_k (by decide), z2, q_up_same]
    · simp (disch := omega) only [nw_o, q_up_k]
      rw [n5, q_up_k (by decide), z4, q_up_same, Nat.zero_add]
    · simp (disch := omega) only [nw_o, q_up_k]
      rw [n5, q_up_same, Nat.zero_add]
    · simp (disch := omega) only [nw_o, q_up_same]
      rw [hl]
    · refine ysk_ext (f := fun k => I2 44 (0 + k)) (fun k hk => ?_) h2.2.2.2.2.2.2.2.2.1
      simp (disch := omega) only [nw_o, nw_s, cpyn]
      rw [if_pos (by omega), m10 k (by omega), q_up_fa (by omega), h3.2.2.2.2.2.2.2.2.2.1 k (by omega), q_up_fa (by omega), Nat.zero_add]
    · refine ysk_ext (f := fun k => I3 44 (0 + o1.length + k)) (fun k hk => ?_) h3.2.2.2.2.2.2.2.2.1
      simp (disch := omega) only [nw_o, nw_s, cpyn]
      rw [if_pos (by omega), m10 _ (by omega), q_up_fa (by omega), Nat.zero_add]
    · refine ysk_ext (f := fun k => I5 44 (0 + o1.length + o2.length + k)) (fun k hk => ?_) m9
      simp (disch := omega) only [nw_o, nw_s, cpyn]
      rw [if_pos (by omega), Nat.zero_add]
    · simp (disch := omega) only [nw_o, q_up_fa]
      rw [m1 a (by omega) (by omega), q_up_fa (by omega)]
      exact fr3.1 a (by omega) (by omega) (by omega)
  · have yt4 : y_tx N ts = .inl (x_b N t3) := yt3.trans (if_neg hk)
    refine s_demN hz hN160 h4 (by omega) (c30.trans (eq_false hk)) fun I5 h5 => ?_
    obtain ⟨y1, y2, y3, gf, -⟩ := h5
    simp (disch := omega) only [q_tl_none, r3002_77, r3002_78, r3002_81, r3002_82, r3002_85, r3002_86, r3002_86n, y3, ns_neg, va_rf_some, va_rf_none, cat_int, cat_ref, cat_null, cat_jk, q_cs_nil, q_cs_int, q_cs_ref, q_cs_long, q_tl_some, q_tl_none, nz_0, nz_1, nzn_0, nzn_1, nz_b, true_and, and_true, Nat.reduceLeDiff, Nat.reduceAdd, l_0, l_1, l_2, l_3, l_4, l_5, l_6, l_7, l_8, l_9, l_10, l_11, l_12, l_13, l_14, l_15, l_16, l_17, l_18, l_19, l_20, l_24, l_32, l_40, l_41, l_42, l_43, l_45, l_48, l_57, l_59, l_60, l_61, l_63, l_64, l_80, l_96, l_97, l_99, l_100, l_122, l_160, l_200, l_320, l_640, l_999, l_1000, l_1200, l_4000, l_99999, l_100000, l_100001, l_100002, l_100006, l_100010, l_252645135, l_858993459, l_1431655765, n_cl, n_lt, n_le, n_eq, n_in, n_add, n_mul, n_sub, n_div, n_mod, n_addneg, n_negl, n_nege, Nat.add_sub_cancel, d_ltT, d_ltF, d_leT, d_leF, d_eqT, d_eqF, ↓reduceIte, Nat.reduceLeDiff, Nat.reduceAdd, Nat.reduceMul, Nat.reduceSub, Nat.reduceLT, Nat.zero_add, Nat.add_zero, not_false_eq_true, hz.1, hz.2.1, hz.2.2.1, hz.2.2.2.1, hz.2.2.2.2.1]
    refine hF I5 _ yt4 ?_ y3 gf
    refine fr_trans fr3 ⟨fun a a1 a2 a3 => by rw [y1 a a1 a2, q_up_fa a3], by rw [y2, q_up_fa (by omega)]⟩
end
