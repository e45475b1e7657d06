/-! the model reads an E: its small steps -/
def y_no : List Nat → Nat
  | [] => 0
  | a :: H => y_no H + if a = 0 ∨ a = 13 ∨ a = 19 then 1 else 0
theorem yno_le : ∀ H : List Nat, y_no H ≤ H.length
  | [] => Nat.le_refl _
  | a :: H => by
    have := yno_le H
    show y_no H + (if _ then 1 else 0) ≤ H.length + 1
    split <;> omega
theorem yun_top {r : Nat} : ∀ (H : List Nat) (o : Nat) (out : List Nat) {a : Nat} {H' : List Nat}, (y_un r H o out).1 = a :: H' → ¬ r ≤ y_rk a
  | [], _, _, _, _, h => absurd h (by simp [y_un])
  | b :: H, o, out, a, H', h => by
    by_cases e : r ≤ y_rk b
    · rw [yun_yes e] at h
      exact yun_top H _ _ h
    · rw [yun_no e] at h
      obtain ⟨rfl, -⟩ := List.cons.inj h
      exact e
theorem yun_no' {r : Nat} (hr : 1 ≤ r) : ∀ (H : List Nat) (o : Nat) (out : List Nat), o = y_no H → (y_un r H o out).2.1 = y_no (y_un r H o out).1
  | [], _, _, h => h
  | a :: H, o, out, h => by
    by_cases e : r ≤ y_rk a
    · rw [yun_yes e]
      refine yun_no' hr H _ _ ?_
      have h : o = y_no H + (if a = 0 ∨ a = 13 ∨ a = 19 then 1 else 0) := h
      have h0 : a ≠ 0 := fun z => by rw [z, show y_rk 0 = 0 from rfl] at e; omega
      by_cases hu : a = 13 ∨ a = 19
      · rw [if_pos hu]; rw [if_pos (.inr hu)] at h; omega
      · rw [if_neg hu]; rw [if_neg (by omega)] at h; omega
    · rw [yun_no e]; exact h
def y_tk (ts : List (Nat × Nat × Nat)) : Prop := ∀ t, t ∈ ts → x_ok t
theorem hs_cons {a : Nat} {H : List Nat} (ha : a = 0 ∨ (11 ≤ a ∧ a ≤ 19)) (h : y_hs H) : y_hs (a :: H) := fun b hb => by
  rcases List.mem_cons.1 hb with e | e
  · rw [e]; exact ha
  · exact h b e
/-- what was read is well formed, and no longer than its tokens -/
theorem ygo_wl {N : Nat} : ∀ (ts : List (Nat × Nat × Nat)) (w mn : Bool) (H : List Nat) (o : Nat) (out : List Nat) (ts' : List (Nat × Nat × Nat)) (out' : List Nat), y_tk ts → y_hs H → y_wl out (y_nb H + if w = true then 0 else 1) → y_go N ts w mn H o out = .inr (ts', out') → y_wl out' 1 ∧ ts'.length + out'.length + 1 ≤ ts.length + out.length + H.length ∧ y_tk ts'
  | [], w, mn, H, o, out, ts', out', ht, hh, hw, h => by cases w <;> exact absurd h (by simp [y_go])
  | t :: ts, true, mn, H, o, out, ts', out', ht, hh, hw, h => by
    have ht' : y_tk ts := fun x hx => ht x (List.mem_cons_of_mem _ hx)
    have hok := ht t (List.mem_cons_self ..)
    have hw : y_wl out (y_nb H) := hw
    have h : y_W N (t :: ts) mn H o out = .inr (ts', out') := h
    have num : ∀ a, (a ≤ 5 ∨ (100000 ≤ a ∧ a ≤ 109999)) → y_A N ts (y_un 7 H o (a :: out)) = .inr (ts', out') → y_wl out' 1 ∧ ts'.length + out'.length + 1 ≤ (t :: ts).length + out.length + H.length ∧ y_tk ts' := fun a ha h => by
      obtain ⟨g1, g2, g3⟩ := yun_wl (r := 7) (by decide) H o (a :: out) hh (.inl ⟨ha, _, rfl, hw⟩)
      have r1 := ygo_wl ts false false _ _ _ ts' out' ht' g1 g2 h
      simp only [List.length_cons] at g3 ⊢
      exact ⟨r1.1, by omega, r1.2.2⟩
    have push : ∀ (a : Nat) (mn' : Bool), (a = 0 ∨ a = 13 ∨ a = 19) → y_W N ts mn' (a :: H) (o + 1) out = .inr (ts', out') → y_wl out' 1 ∧ ts'.length + out'.length + 1 ≤ (t :: ts).length + out.length + H.length ∧ y_tk ts' := fun a mn' ha h => by
      have r1 := ygo_wl ts true mn' (a :: H) (o + 1) out ts' out' ht' (hs_cons (by omega) hh) (by
        show y_wl out (y_nb H + (if a = 0 ∨ a = 13 ∨ a = 19 then 0 else 1) + 0)
        rw [if_pos ha]; exact hw) h
      simp only [List.length_cons] at r1 ⊢
      exact ⟨r1.1, by omega, r1.2.2⟩
    by_cases h1 : t.1 = 1
    · rw [yW_num h1] at h
      exact num _ (.inr ⟨by omega, by have := hok.1 h1; omega⟩) h
    by_cases h2 : t.1 = 2
    · rw [yW_name h2] at h
      exact num _ (.inl (hok.2.1 h2)) h
    by_cases h45 : t.1 = 45
    · rw [yW_neg h45] at h
      split at h
      · exact absurd h (by simp)
      · exact push 19 false (by omega) h
    by_cases h40 : t.1 = 40
    · rw [yW_open h40] at h
      split at h
      · exact absurd h (by simp)
      · exact push 0 true (by omega) h
    by_cases h6 : mn = true ∧ t.1 = 6
    · obtain ⟨rfl, h6⟩ := h6
      rw [yW_not h6] at h
      split at h
      · exact absurd h (by simp)
      · exact push 13 true (by omega) h
    · rw [yW_bad (ts := t :: ts) ⟨h1, h2, h45, h40⟩ fun z z' => h6 ⟨z, z'⟩] at h
      exact absurd h (by simp)
  | t :: ts, false, mn, H, o, out, ts', out', ht, hh, hw, h => by
    have ht' : y_tk ts := fun x hx => ht x (List.mem_cons_of_mem _ hx)
    have hw : y_wl out (y_nb H + 1) := hw
    unfold y_go at h
    split at h
    · obtain ⟨g1, g2, g3⟩ := yun_wl (r := 1) (by decide) H o out hh hw
      split at h
      · rename_i e
        rw [e] at g2 g3
        obtain ⟨rfl, rfl⟩ := Prod.mk.inj (Sum.inr.inj h)
        simp only [List.length_cons, List.length_nil] at g3 ⊢
        exact ⟨g2, by omega, ht'⟩
      · exact absurd h (by simp)
    · split at h
      · obtain ⟨g1, g2, g3⟩ := yun_wl (r := 1) (by decide) H o out hh hw
        split at h
        · exact absurd h (by simp)
        · rename_i a H' e
          have tp := yun_top (r := 1) H o out e
          rw [e] at g1 g2 g3
          have ha : a = 0 := by
            rcases g1 a (List.mem_cons_self ..) with z | z
            · exact z
            · exfalso
              apply tp
              unfold y_rk
              split; · omega
              split; · omega
              split; · omega
              split; · omega
              split; · omega
              split; · omega
              split <;> omega
          subst ha
          have gH : y_hs H' := fun b hb => g1 b (List.mem_cons_of_mem _ hb)
          have g2 : y_wl _ (y_nb H' + 0 + 1) := g2
          obtain ⟨k1, k2, k3⟩ := yun_wl (r := 7) (by decide) H' ((y_un 1 H o out).2.1 - 1) (y_un 1 H o out).2.2 gH g2
          have r1 := ygo_wl ts false false _ _ _ ts' out' ht' k1 k2 h
          simp only [List.length_cons] at g3 ⊢
          exact ⟨r1.1, by omega, r1.2.2⟩
      · split at h
        · exact absurd h (by simp)
        · rename_i hs0
          split at h
          · exact absurd h (by simp)
          · have hq : ∃ q, y_sn t.1 = q ∧ (q = 11 ∨ q = 12 ∨ q = 14 ∨ q = 15 ∨ q = 16 ∨ q = 17 ∨ q = 18) := by
              refine ⟨_, rfl, ?_⟩
              rcases ysn_cases t.1 with z | z | z | z | z | z | z | z <;> omega
            obtain ⟨q, q1, q2⟩ := hq
            rw [q1] at h
            have hlr : 1 ≤ y_lr q := by rcases q2 with rfl | rfl | rfl | rfl | rfl | rfl | rfl <;> decide
            obtain ⟨g1, g2, g3⟩ := yun_wl hlr H o out hh hw
            have r1 := ygo_wl ts true _ _ _ _ ts' out' ht' (hs_cons (a := q) (by omega) g1) (by
              show y_wl _ (y_nb _ + (if q = 0 ∨ q = 13 ∨ q = 19 then 0 else 1) + 0)
              rw [if_neg (by omega)]; exact g2) h
            simp only [List.length_cons] at r1 ⊢
            exact ⟨r1.1, by omega, r1.2.2⟩
theorem xlx_tk {B : Nat → Nat} {N : Nat} : ∀ {ts : List (Nat × Nat × Nat)} {p : Nat}, p ≤ N → x_lx B N p ts → y_tk ts ∧ ts.length ≤ N - p
  | [], _, _, _ => ⟨fun t h => absurd h (by simp), Nat.zero_le _⟩
  | t :: ts, p, hp, h => by
    obtain ⟨k1, k2, k3, k4, k5⟩ := xtk_ok B hp
    obtain ⟨h1, h2, h3⟩ := h
    have g := xlx_tk k3 h3
    have k6 := k5 (by rw [h1]; exact h2)
    refine ⟨fun x hx => ?_, by simp only [List.length_cons]; omega⟩
    rcases List.mem_cons.1 hx with e | e
    · rw [e, ← h1]; exact k1
    · exact g.1 x e
/-- the model's reader: H is held, o are open, out is put from s on into the row t -/
def y_ms (t s : Nat) (I0 I : Nat → Nat → Int32) (H : List Nat) (o : Nat) (out : List Nat) : Prop :=
  (∀ a, a ≠ 135 → a ≠ 153 → a ≠ 165 → I a = I0 a) ∧ (∀ k, ¬(42 ≤ k ∧ k ≤ 50) → I 135 k = I0 135 k) ∧ I 135 48 = Int32.ofNat H.length ∧ I 135 49 = Int32.ofNat o ∧ I 135 50 = Int32.ofNat (s + out.length) ∧
  y_sk Int32.ofNat (I 165) H ∧ y_sk Int32.ofNat (fun k => I 153 (200 * t + (s + k))) out ∧ ∀ k, ¬(200 * t + s ≤ k ∧ k < 200 * t + 200) → I 153 k = I0 153 k
def y_45 (I I' : Nat → Nat → Int32) : Prop := ∀ k, 42 ≤ k ∧ k ≤ 45 → I' 135 k = I 135 k
section
variable {d c L n : Nat} {Q : Option Value → q_H → Prop} {I I0 : Nat → Nat → Int32} {r : Nat → Nat → Option Nat} {dk : Nat → Nat × Nat} {t s o : Nat} {H out : List Nat}
theorem m_rank {h : q_H} {a : Nat} (ha : a < 2147483648) : q_wp (d + 1) c 8020 0 [.int (Int32.ofNat a)] [] h Q = Q (some (.int (Int32.ofNat (y_rk a)))) h := by
  unfold y_rk
  by_cases h0 : a = 0
  · simp (disch := omega) only [r8020_0, r8020_1, r8020_4, r8020_5, r8020_8, r8020_9, r8020_11, r8020_14, r8020_15, r8020_18, r8020_19, r8020_21, r8020_24, r8020_25, r8020_28, r8020_29, r8020_31, r8020_34, r8020_35, r8020_38, r8020_39, r8020_41, r8020_44, r8020_45, r8020_48, r8020_49, r8020_51, r8020_54, r8020_55, r8020_58, r8020_59, r8020_61, r8020_64, r8020_66, r8020_69, r8020_71, h0, va_rf_some, va_rf_none, cat_int, cat_ref, cat_null, cat_jk, q_cs_nil, q_cs_int, q_cs_ref, q_cs_long, q_tl_some, q_tl_none, nz_0, nz_1, nzn_0, nzn_1, nz_b, true_and, and_true, Nat.reduceLeDiff, Nat.reduceAdd, l_0, l_1, l_2, l_3, l_4, l_5, l_6, l_7, l_8, l_9, l_10, l_11, l_12, l_13, l_14, l_15, l_16, l_17, l_18, l_19, l_20, l_24, l_32, l_40, l_41, l_42, l_43, l_45, l_48, l_57, l_59, l_60, l_61, l_63, l_64, l_80, l_96, l_97, l_99, l_100, l_122, l_160, l_200, l_320, l_640, l_999, l_1000, l_1200, l_4000, l_99999, l_100000, l_100001, l_100002, l_100006, l_100010, l_252645135, l_858993459, l_1431655765, n_cl, n_lt, n_le, n_eq, n_in, n_add, n_mul, n_sub, n_div, n_mod, n_addneg, n_negl, n_nege, Nat.add_sub_cancel, d_ltT, d_ltF, d_leT, d_leF, d_eqT, d_eqF, ↓reduceIte, Nat.reduceLeDiff, Nat.reduceAdd, Nat.reduceMul, Nat.reduceSub, Nat.reduceLT, Nat.zero_add, Nat.add_zero, not_false_eq_true]
  by_cases h1 : a = 11
  · simp (disch := omega) only [r8020_0, r8020_1, r8020_4, r8020_5, r8020_8, r8020_9, r8020_11, r8020_14, r8020_15, r8020_18, r8020_19, r8020_21, r8020_24, r8020_25, r8020_28, r8020_29, r8020_31, r8020_34, r8020_35, r8020_38, r8020_39, r8020_41, r8020_44, r8020_45, r8020_48, r8020_49, r8020_51, r8020_54, r8020_55, r8020_58, r8020_59, r8020_61, r8020_64, r8020_66, r8020_69, r8020_71, h1, va_rf_some, va_rf_none, cat_int, cat_ref, cat_null, cat_jk, q_cs_nil, q_cs_int, q_cs_ref, q_cs_long, q_tl_some, q_tl_none, nz_0, nz_1, nzn_0, nzn_1, nz_b, true_and, and_true, Nat.reduceLeDiff, Nat.reduceAdd, l_0, l_1, l_2, l_3, l_4, l_5, l_6, l_7, l_8, l_9, l_10, l_11, l_12, l_13, l_14, l_15, l_16, l_17, l_18, l_19, l_20, l_24, l_32, l_40, l_41, l_42, l_43, l_45, l_48, l_57, l_59, l_60, l_61, l_63, l_64, l_80, l_96, l_97, l_99, l_100, l_122, l_160, l_200, l_320, l_640, l_999, l_1000, l_1200, l_4000, l_99999, l_100000, l_100001, l_100002, l_100006, l_100010, l_252645135, l_858993459, l_1431655765, n_cl, n_lt, n_le, n_eq, n_in, n_add, n_mul, n_sub, n_div, n_mod, n_addneg, n_negl, n_nege, Nat.add_sub_cancel, d_ltT, d_ltF, d_leT, d_leF, d_eqT, d_eqF, ↓reduceIte, Nat.reduceLeDiff, Nat.reduceAdd, Nat.reduceMul, Nat.reduceSub, Nat.reduceLT, Nat.zero_add, Nat.add_zero, not_false_eq_true]
  by_cases h2 : a = 12
  · simp (disch := omega) only [r8020_0, r8020_1, r8020_4, r8020_5, r8020_8, r8020_9, r8020_11, r8020_14, r8020_15, r8020_18, r8020_19, r8020_21, r8020_24, r8020_25, r8020_28, r8020_29, r8020_31, r8020_34, r8020_35, r8020_38, r8020_39, r8020_41, r8020_44, r8020_45, r8020_48, r8020_49, r8020_51, r8020_54, r8020_55, r8020_58, r8020_59, r8020_61, r8020_64, r8020_66, r8020_69, r8020_71, h2, va_rf_some, va_rf_none, cat_int, cat_ref, cat_null, cat_jk, q_cs_nil, q_cs_int, q_cs_ref, q_cs_long, q_tl_some, q_tl_none, nz_0, nz_1, nzn_0, nzn_1, nz_b, true_and, and_true, Nat.reduceLeDiff, Nat.reduceAdd, l_0, l_1, l_2, l_3, l_4, l_5, l_6, l_7, l_8, l_9, l_10, l_11, l_12, l_13, l_14, l_15, l_16, l_17, l_18, l_19, l_20, l_24, l_32, l_40, l_41, l_42, l_43, l_45, l_48, l_57, l_59, l_60, l_61, l_63, l_64, l_80, l_96, l_97, l_99, l_100, l_122, l_160, l_200, l_320, l_640, l_999, l_1000, l_1200, l_4000, l_99999, l_100000, l_100001, l_100002, l_100006, l_100010, l_252645135, l_858993459, l_1431655765, n_cl, n_lt, n_le, n_eq, n_in, n_add, n_mul, n_sub, n_div, n_mod, n_addneg, n_negl, n_nege, Nat.add_sub_cancel, d_ltT, d_ltF, d_leT, d_leF, d_eqT, d_eqF, ↓reduceIte, Nat.reduceLeDiff, Nat.reduceAdd, Nat.reduceMul, Nat.reduceSub, Nat.reduceLT, Nat.zero_add, Nat.add_zero, not_false_eq_true]
  by_cases h3 : a = 13
  · simp (disch := omega) only [r8020_0, r8020_1, r8020_4, r8020_5, r8020_8, r8020_9, r8020_11, r8020_14, r8020_15, r8020_18, r8020_19, r8020_21, r8020_24, r8020_25, r8020_28, r8020_29, r8020_31, r8020_34, r8020_35, r8020_38, r8020_39, r8020_41, r8020_44, r8020_45, r8020_48, r8020_49, r8020_51, r8020_54, r8020_55, r8020_58, r8020_59, r8020_61, r8020_64, r8020_66, r8020_69, r8020_71, h3, va_rf_some, va_rf_none, cat_int, cat_ref, cat_null, cat_jk, q_cs_nil, q_cs_int, q_cs_ref, q_cs_long, q_tl_some, q_tl_none, nz_0, nz_1, nzn_0, nzn_1, nz_b, true_and, and_true, Nat.reduceLeDiff, Nat.reduceAdd, l_0, l_1, l_2, l_3, l_4, l_5, l_6, l_7, l_8, l_9, l_10, l_11, l_12, l_13, l_14, l_15, l_16, l_17, l_18, l_19, l_20, l_24, l_32, l_40, l_41, l_42, l_43, l_45, l_48, l_57, l_59, l_60, l_61, l_63, l_64, l_80, l_96, l_97, l_99, l_100, l_122, l_160, l_200, l_320, l_640, l_999, l_1000, l_1200, l_4000, l_99999, l_100000, l_100001, l_100002, l_100006, l_100010, l_252645135, l_858993459, l_1431655765, n_cl, n_lt, n_le, n_eq, n_in, n_add, n_mul, n_sub, n_div, n_mod, n_addneg, n_negl, n_nege, Nat.add_sub_cancel, d_ltT, d_ltF, d_leT, d_leF, d_eqT, d_eqF, ↓reduceIte, Nat.reduceLeDiff, Nat.reduceAdd, Nat.reduceMul, Nat.reduceSub, Nat.reduceLT, Nat.zero_add, Nat.add_zero, not_false_eq_true]
  by_cases h4 : a ≤ 15
  · simp (disch := omega) only [r8020_0, r8020_1, r8020_4, r8020_5, r8020_8, r8020_9, r8020_11, r8020_14, r8020_15, r8020_18, r8020_19, r8020_21, r8020_24, r8020_25, r8020_28, r8020_29, r8020_31, r8020_34, r8020_35, r8020_38, r8020_39, r8020_41, r8020_44, r8020_45, r8020_48, r8020_49, r8020_51, r8020_54, r8020_55, r8020_58, r8020_59, r8020_61, r8020_64, r8020_66, r8020_69, r8020_71, va_rf_some, va_rf_none, cat_int, cat_ref, cat_null, cat_jk, q_cs_nil, q_cs_int, q_cs_ref, q_cs_long, q_tl_some, q_tl_none, nz_0, nz_1, nzn_0, nzn_1, nz_b, true_and, and_true, Nat.reduceLeDiff, Nat.reduceAdd, l_0, l_1, l_2, l_3, l_4, l_5, l_6, l_7, l_8, l_9, l_10, l_11, l_12, l_13, l_14, l_15, l_16, l_17, l_18, l_19, l_20, l_24, l_32, l_40, l_41, l_42, l_43, l_45, l_48, l_57, l_59, l_60, l_61, l_63, l_64, l_80, l_96, l_97, l_99, l_100, l_122, l_160, l_200, l_320, l_640, l_999, l_1000, l_1200, l_4000, l_99999, l_100000, l_100001, l_100002, l_100006, l_100010, l_252645135, l_858993459, l_1431655765, n_cl, n_lt, n_le, n_eq, n_in, n_add, n_mul, n_sub, n_div, n_mod, n_addneg, n_negl, n_nege, Nat.add_sub_cancel, d_ltT, d_ltF, d_leT, d_leF, d_eqT, d_eqF, ↓reduceIte, Nat.reduceLeDiff, Nat.reduceAdd, Nat.reduceMul, Nat.reduceSub, Nat.reduceLT, Nat.zero_add, Nat.add_zero, not_false_eq_true]
  by_cases h5 : a ≤ 17
  · simp (disch := omega) only [r8020_0, r8020_1, r8020_4, r8020_5, r8020_8, r8020_9, r8020_11, r8020_14, r8020_15, r8020_18, r8020_19, r8020_21, r8020_24, r8020_25, r8020_28, r8020_29, r8020_31, r8020_34, r8020_35, r8020_38, r8020_39, r8020_41, r8020_44, r8020_45, r8020_48, r8020_49, r8020_51, r8020_54, r8020_55, r8020_58, r8020_59, r8020_61, r8020_64, r8020_66, r8020_69, r8020_71, va_rf_some, va_rf_none, cat_int, cat_ref, cat_null, cat_jk, q_cs_nil, q_cs_int, q_cs_ref, q_cs_long, q_tl_some, q_tl_none, nz_0, nz_1, nzn_0, nzn_1, nz_b, true_and, and_true, Nat.reduceLeDiff, Nat.reduceAdd, l_0, l_1, l_2, l_3, l_4, l_5, l_6, l_7, l_8, l_9, l_10, l_11, l_12, l_13, l_14, l_15, l_16, l_17, l_18, l_19, l_20, l_24, l_32, l_40, l_41, l_42, l_43, l_45, l_48, l_57, l_59, l_60, l_61, l_63, l_64, l_80, l_96, l_97, l_99, l_100, l_122, l_160, l_200, l_320, l_640, l_999, l_1000, l_1200, l_4000, l_99999, l_100000, l_100001, l_100002, l_100006, l_100010, l_252645135, l_858993459, l_1431655765, n_cl, n_lt, n_le, n_eq, n_in, n_add, n_mul, n_sub, n_div, n_mod, n_addneg, n_negl, n_nege, Nat.add_sub_cancel, d_ltT, d_ltF, d_leT, d_leF, d_eqT, d_eqF, ↓reduceIte, Nat.reduceLeDiff, Nat.reduceAdd, Nat.reduceMul, Nat.reduceSub, Nat.reduceLT, Nat.zero_add, Nat.add_zero, not_false_eq_true]
  by_cases h6 : a = 18
  · simp (disch := omega) only [r8020_0, r8020_1, r8020_4, r8020_5, r8020_8, r8020_9, r8020_11, r8020_14, r8020_15, r8020_18, r8020_19, r8020_21, r8020_24, r8020_25, r8020_28, r8020_29, r8020_31, r8020_34, r8020_35, r8020_38, r8020_39, r8020_41, r8020_44, r8020_45, r8020_48, r8020_49, r8020_51, r8020_54, r8020_55, r8020_58, r8020_59, r8020_61, r8020_64, r8020_66, r8020_69, r8020_71, h6, va_rf_some, va_rf_none, cat_int, cat_ref, cat_null, cat_jk, q_cs_nil, q_cs_int, q_cs_ref, q_cs_long, q_tl_some, q_tl_none, nz_0, nz_1, nzn_0, nzn_1, nz_b, true_and, and_true, Nat.reduceLeDiff, Nat.reduceAdd, l_0, l_1, l_2, l_3, l_4, l_5, l_6, l_7, l_8, l_9, l_10, l_11, l_12, l_13, l_14, l_15, l_16, l_17, l_18, l_19, l_20, l_24, l_32, l_40, l_41, l_42, l_43, l_45, l_48, l_57, l_59, l_60, l_61, l_63, l_64, l_80, l_96, l_97, l_99, l_100, l_122, l_160, l_200, l_320, l_640, l_999, l_1000, l_1200, l_4000, l_99999, l_100000, l_100001, l_100002, l_100006, l_100010, l_252645135, l_858993459, l_1431655765, n_cl, n_lt, n_le, n_eq, n_in, n_add, n_mul, n_sub, n_div, n_mod, n_addneg, n_negl, n_nege, Nat.add_sub_cancel, d_ltT, d_ltF, d_leT, d_leF, d_eqT, d_eqF, ↓reduceIte, Nat.reduceLeDiff, Nat.reduceAdd, Nat.reduceMul, Nat.reduceSub, Nat.reduceLT, Nat.zero_add, Nat.add_zero, not_false_eq_true]
  · simp (disch := omega) only [r8020_0, r8020_1, r8020_4, r8020_5, r8020_8, r8020_9, r8020_11, r8020_14, r8020_15, r8020_18, r8020_19, r8020_21, r8020_24, r8020_25, r8020_28, r8020_29, r8020_31, r8020_34, r8020_35, r8020_38, r8020_39, r8020_41, r8020_44, r8020_45, r8020_48, r8020_49, r8020_51, r8020_54, r8020_55, r8020_58, r8020_59, r8020_61, r8020_64, r8020_66, r8020_69, r8020_71, va_rf_some, va_rf_none, cat_int, cat_ref, cat_null, cat_jk, q_cs_nil, q_cs_int, q_cs_ref, q_cs_long, q_tl_some, q_tl_none, nz_0, nz_1, nzn_0, nzn_1, nz_b, true_and, and_true, Nat.reduceLeDiff, Nat.reduceAdd, l_0, l_1, l_2, l_3, l_4, l_5, l_6, l_7, l_8, l_9, l_10, l_11, l_12, l_13, l_14, l_15, l_16, l_17, l_18, l_19, l_20, l_24, l_32, l_40, l_41, l_42, l_43, l_45, l_48, l_57, l_59, l_60, l_61, l_63, l_64, l_80, l_96, l_97, l_99, l_100, l_122, l_160, l_200, l_320, l_640, l_999, l_1000, l_1200, l_4000, l_99999, l_100000, l_100001, l_100002, l_100006, l_100010, l_252645135, l_858993459, l_1431655765, n_cl, n_lt, n_le, n_eq, n_in, n_add, n_mul, n_sub, n_div, n_mod, n_addneg, n_negl, n_nege, Nat.add_sub_cancel, d_ltT, d_ltF, d_leT, d_leF, d_eqT, d_eqF, ↓reduceIte, Nat.reduceLeDiff, Nat.reduceAdd, Nat.reduceMul, Nat.reduceSub, Nat.reduceLT, Nat.zero_add, Nat.add_zero, not_false_eq_true]
theorem m_puts (hI : y_ms t s I0 I H o out) (h25 : I0 135 25 = Int32.ofNat t) (ht : t < 6) (h160 : s + out.length < 200) {a : Nat} (hQ : ∀ I', y_ms t s I0 I' H o (a :: out) → y_45 I I' → Q none (p_h L I' r dk n)) : q_wp (d + 1) c 8021 0 [.ref 135, .int (Int32.ofNat a)] [] (p_h L I r dk n) Q := by
  obtain ⟨g1, g2, g3, g4, g5, g6, g7, g8⟩ := hI
  have e25 : I 135 25 = Int32.ofNat t := (g2 25 (by decide)).trans h25
  simp (disch := omega) only [r8021_0, r8021_1, r8021_4, r8021_7, r8021_8, r8021_11, r8021_12, r8021_13, r8021_16, r8021_17, r8021_18, r8021_19, r8021_20, r8021_21, r8021_24, r8021_25, r8021_26, r8021_29, e25, g5, q_up_fa, q_up_a, va_rf_some, va_rf_none, cat_int, cat_ref, cat_null, cat_jk, q_cs_nil, q_cs_int, q_cs_ref, q_cs_long, q_tl_some, q_tl_none, nz_0, nz_1, nzn_0, nzn_1, nz_b, true_and, and_true, Nat.reduceLeDiff, Nat.reduceAdd, l_0, l_1, l_2, l_3, l_4, l_5, l_6, l_7, l_8, l_9, l_10, l_11, l_12, l_13, l_14, l_15, l_16, l_17, l_18, l_19, l_20, l_24, l_32, l_40, l_41, l_42, l_43, l_45, l_48, l_57, l_59, l_60, l_61, l_63, l_64, l_80, l_96, l_97, l_99, l_100, l_122, l_160, l_200, l_320, l_640, l_999, l_1000, l_1200, l_4000, l_99999, l_100000, l_100001, l_100002, l_100006, l_100010, l_252645135, l_858993459, l_1431655765, n_cl, n_lt, n_le, n_eq, n_in, n_add, n_mul, n_sub, n_div, n_mod, n_addneg, n_negl, n_nege, Nat.add_sub_cancel, d_ltT, d_ltF, d_leT, d_leF, d_eqT, d_eqF, ↓reduceIte, Nat.reduceLeDiff, Nat.reduceAdd, Nat.reduceMul, Nat.reduceSub, Nat.reduceLT, Nat.zero_add, Nat.add_zero, not_false_eq_true, pK_135, pK_136, pK_137, pK_138, pK_139, pK_140, pK_141, pK_142, pK_143, pK_144, pK_145, pK_146, pK_147, pK_148, pK_149, pK_150, pK_151, pK_152, pK_153, pK_154, pK_155, pK_156, pK_157, pK_158, pK_159, pK_160, pK_161, pK_162, pK_163, pK_164, pK_165, pK_166, pK_167, pK_168, pK_169, pK_170, pK_171, pK_172, pK_173, pK_174, pK_175, pK_176, pK_177, pK_178, pR_135_0, pR_135_2, pR_135_3, pR_135_4, pR_135_5, pR_135_6, pR_135_7, pR_135_11, pR_135_12, pR_135_13, pR_135_14, pR_135_15, pR_135_16, pR_135_17, pR_135_19, pR_135_20, pR_135_21, pR_135_23, pR_135_24, pR_135_33, pR_135_34, pR_135_35, pR_135_36, pR_135_37, pR_135_38, pR_135_39, pR_135_40, pR_135_41, pR_135_46, pR_135_47, pR_135_51, pR_135_52, pR_135_53, pR_135_54, pR_135_55, pR_135_56, pR_135_57, pR_135_58, pR_135_59, pR_135_61, pR_135_62, pR_135_63, pR_135_64]
  refine hQ _ ⟨fun x h1 h2 h3 => ?_, fun k hk => ?_, ?_, ?_, ?_, ?_, ⟨?_, ?_⟩, fun k hk => ?_⟩ fun k hk => ?_
  · rw [q_up_fa h1, q_up_fa h2]; exact g1 x h1 h2 h3
  · rw [q_up_k (by omega), q_up_fa (by decide)]; exact g2 k hk
  · rw [q_up_k (by decide), q_up_fa (by decide)]; exact g3
  · rw [q_up_k (by decide), q_up_fa (by decide)]; exact g4
  · rw [q_up_same]; rfl
  · rw [q_up_fa (by decide), q_up_fa (by decide)]; exact g6
  · show q_up _ 135 50 _ 153 (200 * t + (s + out.length)) = _
    rw [q_up_fa (by decide), q_up_same]
  · refine ysk_ext (fun k hk => ?_) g7
    show q_up _ 135 50 _ 153 (200 * t + (s + k)) = I 153 (200 * t + (s + k))
    rw [q_up_fa (by decide), q_up_k (by omega)]
  · rw [q_up_fa (by decide), q_up_k (by omega)]; exact g8 k hk
  · rw [q_up_k (by omega), q_up_fa (by decide)]
theorem m_holds (hI : y_ms t s I0 I H o out) (h160 : H.length < 200) {a : Nat} (hQ : ∀ I', y_ms t s I0 I' (a :: H) o out → y_45 I I' → Q none (p_h L I' r dk n)) : q_wp (d + 1) c 8023 0 [.ref 135, .int (Int32.ofNat a)] [] (p_h L I r dk n) Q := by
  obtain ⟨g1, g2, g3, g4, g5, g6, g7, g8⟩ := hI
  simp (disch := omega) only [r8023_0, r8023_1, r8023_4, r8023_5, r8023_8, r8023_9, r8023_10, r8023_11, r8023_12, r8023_15, r8023_16, r8023_17, r8023_20, g3, q_up_fa, q_up_a, va_rf_some, va_rf_none, cat_int, cat_ref, cat_null, cat_jk, q_cs_nil, q_cs_int, q_cs_ref, q_cs_long, q_tl_some, q_tl_none, nz_0, nz_1, nzn_0, nzn_1, nz_b, true_and, and_true, Nat.reduceLeDiff, Nat.reduceAdd, l_0, l_1, l_2, l_3, l_4, l_5, l_6, l_7, l_8, l_9, l_10, l_11, l_12, l_13, l_14, l_15, l_16, l_17, l_18, l_19, l_20, l_24, l_32, l_40, l_41, l_42, l_43, l_45, l_48, l_57, l_59, l_60, l_61, l_63, l_64, l_80, l_96, l_97, l_99, l_100, l_122, l_160, l_200, l_320, l_640, l_999, l_1000, l_1200, l_4000, l_99999, l_100000, l_100001, l_100002, l_100006, l_100010, l_252645135, l_858993459, l_1431655765, n_cl, n_lt, n_le, n_eq, n_in, n_add, n_mul, n_sub, n_div, n_mod, n_addneg, n_negl, n_nege, Nat.add_sub_cancel, d_ltT, d_ltF, d_leT, d_leF, d_eqT, d_eqF, ↓reduceIte, Nat.reduceLeDiff, Nat.reduceAdd, Nat.reduceMul, Nat.reduceSub, Nat.reduceLT, Nat.zero_add, Nat.add_zero, not_false_eq_true, pK_135, pK_136, pK_137, pK_138, pK_139, pK_140, pK_141, pK_142, pK_143, pK_144, pK_145, pK_146, pK_147, pK_148, pK_149, pK_150, pK_151, pK_152, pK_153, pK_154, pK_155, pK_156, pK_157, pK_158, pK_159, pK_160, pK_161, pK_162, pK_163, pK_164, pK_165, pK_166, pK_167, pK_168, pK_169, pK_170, pK_171, pK_172, pK_173, pK_174, pK_175, pK_176, pK_177, pK_178, pR_135_0, pR_135_2, pR_135_3, pR_135_4, pR_135_5, pR_135_6, pR_135_7, pR_135_11, pR_135_12, pR_135_13, pR_135_14, pR_135_15, pR_135_16, pR_135_17, pR_135_19, pR_135_20, pR_135_21, pR_135_23, pR_135_24, pR_135_33, pR_135_34, pR_135_35, pR_135_36, pR_135_37, pR_135_38, pR_135_39, pR_135_40, pR_135_41, pR_135_46, pR_135_47, pR_135_51, pR_135_52, pR_135_53, pR_135_54, pR_135_55, pR_135_56, pR_135_57, pR_135_58, pR_135_59, pR_135_61, pR_135_62, pR_135_63, pR_135_64]
  refine hQ _ ⟨fun x h1 h2 h3 => ?_, fun k hk => ?_, ?_, ?_, ?_, ⟨?_, ?_⟩, ?_, fun k hk => ?_⟩ fun k hk => ?_
  · rw [q_up_fa h1, q_up_fa h3]; exact g1 x h1 h2 h3
  · rw [q_up_k (by omega), q_up_fa (by decide)]; exact g2 k hk
  · rw [q_up_same]; rfl
  · rw [q_up_k (by decide), q_up_fa (by decide)]; exact g4
  · rw [q_up_k (by decide), q_up_fa (by decide)]; exact g5
  · rw [q_up_fa (by decide), q_up_same]
  · refine ysk_ext (fun k hk => ?_) g6
    rw [q_up_fa (by decide), q_up_k (by omega)]
  · rw [q_up_fa (by decide), q_up_fa (by decide)]; exact g7
  · rw [q_up_fa (by decide), q_up_fa (by decide)]; exact g8 k hk
  · rw [q_up_k (by omega), q_up_fa (by decide)]
end
