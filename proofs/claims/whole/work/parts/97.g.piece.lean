/-! piece -/
def p_pie (M : Nat → Nat → Int32) (s p : Nat) (o f l d w : Int32) : Nat → Nat → Int32 := q_up (q_up (q_up (q_up (q_up (q_up M 138 (6 * s + p) o) 139 (6 * s + p) f) 140 (6 * s + p) l) 141 (6 * s + p) d) 142 (6 * s + p) w) 137 s (Int32.ofNat (p + 1))
def p_pg {α : Type} (x l d w : Int32) (no : α) (y : α) : α := if Int32.ofNat 0 ≤ x ∧ x ≤ Int32.ofNat 399 then (if Int32.ofNat 1 ≤ x % Int32.ofNat 100 ∧ x % Int32.ofNat 100 ≤ Int32.ofNat 20 then (if Int32.ofNat 0 ≤ l ∧ l ≤ Int32.ofNat 20 then (if Int32.ofNat 0 ≤ d ∧ d ≤ Int32.ofNat 20 then (if Int32.ofNat 1 ≤ w ∧ w ≤ Int32.ofNat 20 then y else no) else no) else no) else no) else no
def t_piece (M : Nat → Nat → Int32) (s x l d w : Int32) : Nat → Nat → Int32 := p_sels M s M fun k => p_pg x l d w M (if p_pc M k = 6 then M else p_pie M k (p_pc M k) (x / Int32.ofNat 100) (x % Int32.ofNat 100) l d w)
def a_piece (M : Nat → Nat → Int32) (s x l d w : Int32) : Int32 := p_sels M s (-1) fun k => p_pg x l d w (-2) (if p_pc M k = 6 then -4 else Int32.ofNat (p_pc M k))
/-- a number cut at 100 into two parts, each in its bounds, or the whole number in its own: the same -/
theorem dm_nn {x : Int32} (h1 : Int32.ofNat 0 ≤ x / Int32.ofNat 100) (h2 : Int32.ofNat 0 ≤ x % Int32.ofNat 100) : Int32.ofNat 0 ≤ x := by
  have e100 : (Int32.ofNat 100).toInt = 100 := rfl
  have e0 : (Int32.ofNat 0).toInt = 0 := rfl
  have hd : (x / Int32.ofNat 100).toInt = x.toInt.tdiv 100 := by rw [Int32.toInt_div_of_ne_right _ _ (by decide), e100]
  have hm : (x % Int32.ofNat 100).toInt = x.toInt.tmod 100 := by rw [Int32.toInt_mod, e100]
  rw [Int32.le_iff_toInt_le, e0] at h1 h2 ⊢
  rw [hd] at h1
  rw [hm] at h2
  have := Int.mul_tdiv_add_tmod x.toInt 100
  omega
theorem dm_up {x : Int32} {B m : Nat} (hm : m = 100 * B + 99) (hB : B ≤ 1000) (h : Int32.ofNat 0 ≤ x ∧ x ≤ Int32.ofNat m) : Int32.ofNat 0 ≤ x / Int32.ofNat 100 ∧ x / Int32.ofNat 100 ≤ Int32.ofNat B := by
  obtain ⟨k, hk, rfl⟩ := x_rng (by omega) h
  rw [n_div (by omega) (by omega), n_le (by omega) (by omega), n_le (by omega) (by omega)]
  omega
theorem dm_no {x : Int32} {B m lo hi : Nat} (hm : m = 100 * B + 99) (hB : B ≤ 1000) (hlo : lo ≤ 100) (h : ¬(Int32.ofNat 0 ≤ x ∧ x ≤ Int32.ofNat m)) (hd : Int32.ofNat 0 ≤ x / Int32.ofNat 100 ∧ x / Int32.ofNat 100 ≤ Int32.ofNat B) : ¬(Int32.ofNat lo ≤ x % Int32.ofNat 100 ∧ x % Int32.ofNat 100 ≤ Int32.ofNat hi) := by
  intro z
  have hx := dm_nn hd.1 (Int32.le_trans (by rw [n_le (by omega) (by omega)]; omega) z.1)
  obtain ⟨k, hk, rfl⟩ := x_nat hx
  rw [n_div hk (by omega), n_le (by omega) (by omega), n_le (by omega) (by omega)] at hd
  rw [n_le (by omega) hk, n_le hk (by omega)] at h
  omega
section
variable {d c L n : Nat} {Q : Option Value → q_H → Prop} {I M : Nat → Nat → Int32} {r : Nat → Nat → Option Nat} {dk : Nat → Nat × Nat}
theorem s_fw01 {h : q_H} {row : Nat} {v : Int32} (hr : row < 2) : q_wp (d + 2) c 7053 0 [.int (Int32.ofNat row), .int v] [] h Q = Q (some (.int (if Int32.ofNat 0 ≤ v ∧ v ≤ Int32.ofNat 20 then Int32.ofNat 1 else Int32.ofNat 0))) h := by
  rw [s_filedWell (by omega), if_neg (show ¬ row = 2 by omega)]; rfl
theorem s_fw2 {h : q_H} {v : Int32} : q_wp (d + 2) c 7053 0 [.int (Int32.ofNat 2), .int v] [] h Q = Q (some (.int (if Int32.ofNat 1 ≤ v ∧ v ≤ Int32.ofNat 20 then Int32.ofNat 1 else Int32.ofNat 0))) h := by
  rw [s_filedWell (by omega), if_pos rfl]; rfl
theorem pie_o {s p a : Nat} {o f l e w : Int32} (h : ¬(137 ≤ a ∧ a ≤ 142)) : p_pie M s p o f l e w a = M a := by
  unfold p_pie
  rw [q_up_fa (by omega), q_up_fa (by omega), q_up_fa (by omega), q_up_fa (by omega), q_up_fa (by omega), q_up_fa (by omega)]
theorem pie_pc {s p z : Nat} {o f l e w : Int32} (hp : p < 6) : p_pc (p_pie M s p o f l e w) z = if z = s then p + 1 else p_pc M z := by
  unfold p_pc p_pie
  by_cases e : z = s
  · rw [e, q_up_same, if_pos rfl, n_cl (by omega)]
  · simp (disch := omega) only [q_up_k, q_up_fa, if_neg e]
theorem wf_pie (hW : p_wf M) {s o f l e w : Nat} (hs : s < 4) (hp : p_pc M s < 6) (ho : o ≤ 3) (hf : f ≤ 20) (hl : l ≤ 20) (he : e ≤ 20) (hw : w ≤ 20) : p_wf (p_pie M s (p_pc M s) (Int32.ofNat o) (Int32.ofNat f) (Int32.ofNat l) (Int32.ofNat e) (Int32.ofNat w)) := by
  generalize hM' : p_pie M s (p_pc M s) (Int32.ofNat o) (Int32.ofNat f) (Int32.ofNat l) (Int32.ofNat e) (Int32.ofNat w) = M'
  have hM : ∀ a, ¬(137 ≤ a ∧ a ≤ 142) → M' a = M a := fun a h => by rw [← hM']; exact pie_o h
  have h5 : M' 135 = M 135 := hM 135 (by decide)
  have esn : p_sn M' = p_sn M := by unfold p_sn; rw [h5]
  refine ⟨by rw [h5]; exact hW.1, ?_, w3 hW (by rw [h5]) (by rw [h5]), w4 hW (fun a ha => hM a (by omega)) (by rw [h5]) (by omega), by rw [h5]; exact hW.2.2.2.2.1, w6 hW (hM 152 (by decide)) (by rw [h5]), w7 hW (fun a ha => hM a (by omega)) (by rw [h5]) (by rw [h5]) (by rw [h5]), w8 hW (fun a ha => hM a (by omega)) (by rw [h5]) (by rw [h5]) (by rw [h5]) (by rw [h5]), w9 hW (fun a ha => hM a (by omega)), w10 hW (hM 136 (by decide))⟩
  intro z hz
  have b := hW.2.1 z hz
  have epc : p_pc M' z = if z = s then p_pc M s + 1 else p_pc M z := by rw [← hM']; exact pie_pc hp
  have hz6 := (p_pc_eq hW hz).2
  rw [epc]
  by_cases ez : z = s
  · subst ez
    rw [if_pos rfl]
    refine ⟨⟨p_pc M z + 1, by omega, by rw [← hM']; exact q_up_same⟩, fun j hj => ?_⟩
    rw [← hM']
    unfold p_pwf p_pie
    by_cases ej : j = p_pc M z
    · subst ej
      simp (disch := omega) only [q_up_fa, q_up_same]
      exact ⟨⟨l, hl, rfl⟩, ⟨e, he, rfl⟩, ⟨w, hw, rfl⟩, ⟨o, ho, rfl⟩, ⟨f, hf, rfl⟩⟩
    · have := b.2 j (by omega)
      unfold p_pwf at this
      simp (disch := omega) only [q_up_fa, q_up_k]
      exact this
  · rw [if_neg ez, ← hM']
    refine ⟨?_, fun j hj => ?_⟩
    · unfold p_pie
      simp (disch := omega) only [q_up_fa, q_up_k]
      exact b.1
    · have := b.2 j hj
      unfold p_pwf p_pie at *
      simp (disch := omega) only [q_up_fa, q_up_k]
      exact this
theorem wf_piece (hW : p_wf M) {s x l e w : Int32} : p_wf (t_piece M s x l e w) := by
  unfold t_piece
  by_cases hi : p_is s (p_sn M)
  · obtain ⟨k, hk, rfl⟩ := hi
    rw [p_sels_ok hW hk]
    have h4 := (p_sn_eq hW).2
    have h6 := (p_pc_eq hW (show k < 4 by omega)).2
    unfold p_pg
    split
    · rename_i h1
      split
      · rename_i h2
        split
        · rename_i h3
          split
          · rename_i h4
            split
            · rename_i h5
              split
              · exact hW
              · rename_i h6
                obtain ⟨x', hx, rfl⟩ := x_rng (by omega) h1
                obtain ⟨l', hl, rfl⟩ := x_rng (by omega) h3
                obtain ⟨e', he, rfl⟩ := x_rng (by omega) h4
                obtain ⟨w', hw, rfl⟩ := x_rng (by omega) ⟨Int32.le_trans (by decide) h5.1, h5.2⟩
                rw [n_mod (by omega) (by omega), n_le (by omega) (by omega), n_le (by omega) (by omega)] at h2
                rw [n_mod (by omega) (by omega), n_div (by omega) (by omega)]
                exact wf_pie hW (by omega) (by omega) (by omega) h2.2 hl he hw
            · exact hW
          · exact hW
        · exact hW
      · exact hW
    · exact hW
  · rw [p_sels_no hW hi]; exact hW
theorem CR_pie (hW : p_wf M) (hC : p_CR L r dk n I M) {s : Nat} {o f l e w : Int32} (hs : s < 4) (hp : p_pc M s < 6) :
    p_CR L r dk n (q_up (q_up (q_up (q_up (q_up (q_up I (80 + 11 * s) 3 (Int32.ofNat (p_pc M s + 1))) (80 + 11 * s + 2) (p_pc M s) l) (80 + 11 * s + 3) (p_pc M s) e) (80 + 11 * s + 4) (p_pc M s) w) (80 + 11 * s + 5) (p_pc M s) o) (80 + 11 * s + 6) (p_pc M s) f) (p_pie M s (p_pc M s) o f l e w) := by
  generalize hI' : q_up (q_up (q_up (q_up (q_up (q_up I (80 + 11 * s) 3 (Int32.ofNat (p_pc M s + 1))) (80 + 11 * s + 2) (p_pc M s) l) (80 + 11 * s + 3) (p_pc M s) e) (80 + 11 * s + 4) (p_pc M s) w) (80 + 11 * s + 5) (p_pc M s) o) (80 + 11 * s + 6) (p_pc M s) f = I'
  have hI : ∀ a, ¬(a = 80 + 11 * s ∨ (80 + 11 * s + 2 ≤ a ∧ a ≤ 80 + 11 * s + 6)) → I' a = I a := fun a h => by rw [← hI']; simp (disch := omega) only [q_up_fa]
  generalize hM' : p_pie M s (p_pc M s) o f l e w = M'
  have hM : ∀ a, ¬(137 ≤ a ∧ a ≤ 142) → M' a = M a := fun a h => by rw [← hM']; exact pie_o h
  have h5 : M' 135 = M 135 := hM 135 (by decide)
  refine ⟨k1 hC (hI 32 (by omega)) (fun j _ => .inr (.inr (.inr (by rw [h5])))), ?_, k3 hC (fun a ha => hI a (by omega)) (fun a ha => hM a (by omega)) (by rw [h5]), k4 hC (fun a ha => hI a (by omega)) (fun a ha => hM a (by omega)) (by rw [h5]), k5 hC (fun a ha => hI a (by omega)) (fun a ha => hM a (by omega)), k6 hC (fun a ha => hI a (by omega)) (fun a ha => hM a (by omega)) (by rw [h5]) (by rw [h5]), k7 hC (fun a ha => hI a (by omega)) (hM 152 (by decide)) (by rw [h5]), k8 hC (fun a ha => hI a (by omega)) (hM 136 (by decide)), hC.2.2.2.2.2.2.2.2⟩
  intro z hz
  obtain ⟨⟨a1, a2⟩, a3, a4, a5⟩ := hC.2.1 z hz
  have epc : p_pc M' z = if z = s then p_pc M s + 1 else p_pc M z := by rw [← hM']; exact pie_pc hp
  have eic : p_ipc M' z = p_ipc M z := by unfold p_ipc; rw [hM 155 (by decide)]
  have hz6 := (p_pc_eq hW hz).2
  refine ⟨⟨?_, fun j hj => ?_⟩, ?_, ?_, fun j hj => ?_⟩
  · rw [← hI', ← hM']
    unfold p_pie
    by_cases ez : z = s
    · subst ez
      simp (disch := omega) only [q_up_fa, q_up_same]
    · simp (disch := omega) only [q_up_fa, q_up_k]; exact a1
  · rw [epc] at hj
    rw [← hI', ← hM']
    unfold p_pie
    by_cases ez : z = s
    · subst ez
      rw [if_pos rfl] at hj
      by_cases ej : j = p_pc M z
      · subst ej
        simp (disch := omega) only [q_up_fa, q_up_same, and_self]
      · have b := a2 j (by omega)
        simp (disch := omega) only [q_up_fa, q_up_k]
        exact b
    · rw [if_neg ez] at hj
      have b := a2 j hj
      simp (disch := omega) only [q_up_fa, q_up_k]
      exact b
  · rw [← hI']
    by_cases ez : z = s
    · subst ez
      simp (disch := omega) only [q_up_fa, q_up_k]; exact a3
    · simp (disch := omega) only [q_up_fa]; exact a3
  · rw [← hI', hM 155 (by decide)]
    by_cases ez : z = s
    · subst ez
      simp (disch := omega) only [q_up_fa, q_up_k]; exact a4
    · simp (disch := omega) only [q_up_fa]; exact a4
  · rw [eic] at hj
    rw [hI (80 + 11 * z + 8) (by omega), hI (80 + 11 * z + 9) (by omega), hI (80 + 11 * z + 10) (by omega), hM 156 (by decide), hM 157 (by decide), hM 158 (by decide)]
    exact a5 j hj
theorem c_piece (hW : p_wf M) (hC : p_CR L r dk n I M) {s x l e w : Int32} (hQ : ∀ I', p_cc I I' → p_CR L r dk n I' (t_piece M s x l e w) → Q (some (.int (a_piece M s x l e w))) (p_h L I' r dk n)) :
    q_wp (d + 9) c 7002 0 [.ref 32, .int s, .int x, .int l, .int e, .int w, q_jk, q_jk, q_jk, q_jk] [] (p_h L I r dk n) Q := by
  unfold t_piece a_piece at hQ
  by_cases hi : p_is s (p_sn M)
  · obtain ⟨t0, hk, rfl⟩ := hi
    obtain ⟨e0, h4⟩ := p_sn_eq hW
    have hs4 : t0 < 4 := by omega
    obtain ⟨e2, h6⟩ := p_pc_eq hW hs4
    have hsk : p_ska (80 + 11 * t0) := by unfold p_ska; omega
    obtain ⟨j1, j2, j3, j4, j5⟩ := k_st (L := L) (dk := dk) hsk
    have hst32 : 32 ≤ 80 + 11 * t0 := by omega
    have e3 : I (80 + 11 * t0) 3 = Int32.ofNat (p_pc M t0) := (hC.2.1 _ hs4).1.1.trans e2
    rw [p_sels_ok hW hk, p_sels_ok hW hk] at hQ
    unfold p_pg at hQ
    by_cases h1 : Int32.ofNat 0 ≤ x ∧ x ≤ Int32.ofNat 399
    · simp only [if_pos h1] at hQ
      have hd := dm_up (B := 3) (m := 399) rfl (by omega) h1
      by_cases h2 : Int32.ofNat 1 ≤ x % Int32.ofNat 100 ∧ x % Int32.ofNat 100 ≤ Int32.ofNat 20
      · simp only [if_pos h2] at hQ
        by_cases h3 : Int32.ofNat 0 ≤ l ∧ l ≤ Int32.ofNat 20
        · simp only [if_pos h3] at hQ
          by_cases h4 : Int32.ofNat 0 ≤ e ∧ e ≤ Int32.ofNat 20
          · simp only [if_pos h4] at hQ
            by_cases h5 : Int32.ofNat 1 ≤ w ∧ w ≤ Int32.ofNat 20
            · simp only [if_pos h5] at hQ
              by_cases h7 : p_pc M t0 = 6
              · simp only [if_pos h7] at hQ
                simp (disch := omega) only [r7002_0, r7002_1, r7002_2, r7002_5, r7002_5n, r7002_7, r7002_7n, r7002_9, r7002_9n, r7002_12, r7002_13, r7002_14, r7002_15, r7002_17, r7002_18, r7002_20, r7002_21, r7002_23, r7002_24, r7002_26, r7002_28, r7002_29, r7002_30, r7002_33, r7002_36, r7002_38, r7002_39, r7002_41, r7002_44, r7002_47, r7002_49, r7002_50, r7002_51, r7002_52, r7002_55, r7002_58, r7002_59, r7002_61, r7002_64, r7002_67, r7002_69, r7002_70, r7002_71, r7002_73, r7002_76, r7002_79, r7002_81, r7002_82, r7002_82n, r7002_84, r7002_87, r7002_89, r7002_92, r7002_94, s_stickAt hW hC hk, s_within, s_fw01, s_fw2, hd, h2, h3, h4, h5, j1, hst32, e3, h7, b_eq0, b_eq1, b_0eq, ite_not, not_true_eq_false, not_false_eq_true, ↓reduceIte, va_rf_some, va_rf_none, cat_int, cat_ref, cat_null, cat_jk, q_cs_nil, q_cs_int, q_cs_ref, q_cs_long, q_tl_some, q_tl_none, nz_0, nz_1, nzn_0, nzn_1, nz_b, true_and, and_true, Nat.reduceLeDiff, Nat.reduceAdd, l_0, l_1, l_2, l_3, l_4, l_5, l_6, l_7, l_8, l_9, l_10, l_11, l_12, l_13, l_14, l_15, l_16, l_17, l_18, l_19, l_20, l_24, l_32, l_40, l_41, l_42, l_43, l_45, l_48, l_57, l_59, l_60, l_61, l_63, l_64, l_80, l_96, l_97, l_99, l_100, l_122, l_160, l_200, l_320, l_640, l_999, l_1000, l_1200, l_4000, l_99999, l_100000, l_100001, l_100002, l_100006, l_100010, l_252645135, l_858993459, l_1431655765, n_cl, n_lt, n_le, n_eq, n_in, n_add, n_mul, n_sub, n_div, n_mod, n_addneg, n_negl, n_nege, Nat.add_sub_cancel, d_ltT, d_ltF, d_leT, d_leF, d_eqT, d_eqF, ↓reduceIte, Nat.reduceLeDiff, Nat.reduceAdd, Nat.reduceMul, Nat.reduceSub, Nat.reduceLT, Nat.zero_add, Nat.add_zero, not_false_eq_true, pK_32, pK_33, pK_34, pK_35, pK_36, pK_37, pK_38, pK_39, pK_40, pK_41, pK_42, pK_43, pK_44, pR_32_0, pR_32_1, pR_32_2, pR_32_3, pR_32_4, pR_32_5, pR_32_6, pR_32_7, pR_32_8, pR_33_0, pR_33_1, pR_33_2, pR_33_3, pR_36_0, pR_36_1, pR_36_2, pR_36_3, pR_37_0, pR_37_1, pR_37_3, pR_37_4, pR_42_0, pR_42_3, pK_124, pK_125, pK_126, pK_127, pK_128, pK_129, pK_130, pK_131, pK_132, pK_133, pK_134, pR_124_0, pR_126_0, pR_128_0, pR_130_0, pR_134_0, pR_134_1, and_self]
                exact hQ I (fun _ _ => rfl) hC
              · simp only [if_neg h7] at hQ
                have w0 := k_row (L := L) (dk := dk) (r := r) hsk (show 0 < 5 by omega)
                have w1 := k_row (L := L) (dk := dk) (r := r) hsk (show 1 < 5 by omega)
                have w2 := k_row (L := L) (dk := dk) (r := r) hsk (show 2 < 5 by omega)
                have w3 := k_row (L := L) (dk := dk) (r := r) hsk (show 3 < 5 by omega)
                have w4 := k_row (L := L) (dk := dk) (r := r) hsk (show 4 < 5 by omega)
                have sr := (k_sr (r := r) hsk).1
                simp (disch := omega) only [r7002_0, r7002_1, r7002_2, r7002_5, r7002_5n, r7002_7, r7002_7n, r7002_9, r7002_9n, r7002_12, r7002_13, r7002_14, r7002_15, r7002_17, r7002_18, r7002_20, r7002_21, r7002_23, r7002_24, r7002_26, r7002_28, r7002_29, r7002_30, r7002_33, r7002_36, r7002_38, r7002_39, r7002_41, r7002_44, r7002_47, r7002_49, r7002_50, r7002_51, r7002_52, r7002_55, r7002_58, r7002_59, r7002_61, r7002_64, r7002_67, r7002_69, r7002_70, r7002_71, r7002_73, r7002_76, r7002_79, r7002_81, r7002_82, r7002_82n, r7002_84, r7002_87, r7002_89, r7002_92, r7002_94, r7002_95, r7002_95n, r7002_97, r7002_98, r7002_101, r7002_102, r7002_103, r7002_104, r7002_107, r7002_109, r7002_109n, r7002_111, r7002_114, r7002_115, r7002_116, r7002_118, r7002_119, r7002_120, r7002_120n, r7002_122, r7002_125, r7002_126, r7002_127, r7002_129, r7002_131, r7002_132, r7002_132n, r7002_134, r7002_137, r7002_138, r7002_139, r7002_141, r7002_143, r7002_144, r7002_144n, r7002_146, r7002_149, r7002_150, r7002_151, r7002_153, r7002_155, r7002_156, r7002_156n, r7002_158, r7002_161, r7002_162, r7002_163, r7002_165, r7002_167, r7002_168, r7002_170, s_stickAt hW hC hk, s_within, s_fw01, s_fw2, hd, h2, h3, h4, h5, j1, j2, j5, sr, w0.1, w0.2, w1.1, w1.2, w2.1, w2.2, w3.1, w3.2, w4.1, w4.2, hst32, e3, b_eq0, b_eq1, b_0eq, ite_not, not_true_eq_false, not_false_eq_true, ↓reduceIte, va_rf_some, va_rf_none, cat_int, cat_ref, cat_null, cat_jk, q_cs_nil, q_cs_int, q_cs_ref, q_cs_long, q_tl_some, q_tl_none, nz_0, nz_1, nzn_0, nzn_1, nz_b, true_and, and_true, Nat.reduceLeDiff, Nat.reduceAdd, l_0, l_1, l_2, l_3, l_4, l_5, l_6, l_7, l_8, l_9, l_10, l_11, l_12, l_13, l_14, l_15, l_16, l_17, l_18, l_19, l_20, l_24, l_32, l_40, l_41, l_42, l_43, l_45, l_48, l_57, l_59, l_60, l_61, l_63, l_64, l_80, l_96, l_97, l_99, l_100, l_122, l_160, l_200, l_320, l_640, l_999, l_1000, l_1200, l_4000, l_99999, l_100000, l_100001, l_100002, l_100006, l_100010, l_252645135, l_858993459, l_1431655765, n_cl, n_lt, n_le, n_eq, n_in, n_add, n_mul, n_sub, n_div, n_mod, n_addneg, n_negl, n_nege, Nat.add_sub_cancel, d_ltT, d_ltF, d_leT, d_leF, d_eqT, d_eqF, ↓reduceIte, Nat.reduceLeDiff, Nat.reduceAdd, Nat.reduceMul, Nat.reduceSub, Nat.reduceLT, Nat.zero_add, Nat.add_zero, not_false_eq_true, pK_32, pK_33, pK_34, pK_35, pK_36, pK_37, pK_38, pK_39, pK_40, pK_41, pK_42, pK_43, pK_44, pR_32_0, pR_32_1, pR_32_2, pR_32_3, pR_32_4, pR_32_5, pR_32_6, pR_32_7, pR_32_8, pR_33_0, pR_33_1, pR_33_2, pR_33_3, pR_36_0, pR_36_1, pR_36_2, pR_36_3, pR_37_0, pR_37_1, pR_37_3, pR_37_4, pR_42_0, pR_42_3, pK_124, pK_125, pK_126, pK_127, pK_128, pK_129, pK_130, pK_131, pK_132, pK_133, pK_134, pR_124_0, pR_126_0, pR_128_0, pR_130_0, pR_134_0, pR_134_1, and_self]
                exact hQ _ (fun a ha => by simp (disch := omega) only [q_up_fa]) (CR_pie hW hC hs4 (by omega))
            · simp only [if_neg h5] at hQ
              simp (disch := omega) only [r7002_0, r7002_1, r7002_2, r7002_5, r7002_5n, r7002_7, r7002_7n, r7002_9, r7002_9n, r7002_12, r7002_13, r7002_14, r7002_15, r7002_17, r7002_18, r7002_20, r7002_21, r7002_23, r7002_24, r7002_26, r7002_28, r7002_29, r7002_30, r7002_33, r7002_36, r7002_38, r7002_39, r7002_41, r7002_44, r7002_47, r7002_49, r7002_50, r7002_51, r7002_52, r7002_55, r7002_58, r7002_59, r7002_61, r7002_64, r7002_67, r7002_69, r7002_70, r7002_71, r7002_73, r7002_76, r7002_79, r7002_81, s_stickAt hW hC hk, s_within, s_fw01, s_fw2, hd, h2, h3, h4, h5, hst32, b_eq0, b_eq1, b_0eq, ite_not, not_true_eq_false, not_false_eq_true, ↓reduceIte, va_rf_some, va_rf_none, cat_int, cat_ref, cat_null, cat_jk, q_cs_nil, q_cs_int, q_cs_ref, q_cs_long, q_tl_some, q_tl_none, nz_0, nz_1, nzn_0, nzn_1, nz_b, true_and, and_true, Nat.reduceLeDiff, Nat.reduceAdd, l_0, l_1, l_2, l_3, l_4, l_5, l_6, l_7, l_8, l_9, l_10, l_11, l_12, l_13, l_14, l_15, l_16, l_17, l_18, l_19, l_20, l_24, l_32, l_40, l_41, l_42, l_43, l_45, l_48, l_57, l_59, l_60, l_61, l_63, l_64, l_80, l_96, l_97, l_99, l_100, l_122, l_160, l_200, l_320, l_640, l_999, l_1000, l_1200, l_4000, l_99999, l_100000, l_100001, l_100002, l_100006, l_100010, l_252645135, l_858993459, l_1431655765, n_cl, n_lt, n_le, n_eq, n_in, n_add, n_mul, n_sub, n_div, n_mod, n_addneg, n_negl, n_nege, Nat.add_sub_cancel, d_ltT, d_ltF, d_leT, d_leF, d_eqT, d_eqF, ↓reduceIte, Nat.reduceLeDiff, Nat.reduceAdd, Nat.reduceMul, Nat.reduceSub, Nat.reduceLT, Nat.zero_add, Nat.add_zero, not_false_eq_true, pK_32, pK_33, pK_34, pK_35, pK_36, pK_37, pK_38, pK_39, pK_40, pK_41, pK_42, pK_43, pK_44, pR_32_0, pR_32_1, pR_32_2, pR_32_3, pR_32_4, pR_32_5, pR_32_6, pR_32_7, pR_32_8, pR_33_0, pR_33_1, pR_33_2, pR_33_3, pR_36_0, pR_36_1, pR_36_2, pR_36_3, pR_37_0, pR_37_1, pR_37_3, pR_37_4, pR_42_0, pR_42_3, pK_124, pK_125, pK_126, pK_127, pK_128, pK_129, pK_130, pK_131, pK_132, pK_133, pK_134, pR_124_0, pR_126_0, pR_128_0, pR_130_0, pR_134_0, pR_134_1, and_self]
              exact hQ I (fun _ _ => rfl) hC
          · simp only [if_neg h4] at hQ
            simp (disch := omega) only [r7002_0, r7002_1, r7002_2, r7002_5, r7002_5n, r7002_7, r7002_7n, r7002_9, r7002_9n, r7002_12, r7002_13, r7002_14, r7002_15, r7002_17, r7002_18, r7002_20, r7002_21, r7002_23, r7002_24, r7002_26, r7002_28, r7002_29, r7002_30, r7002_33, r7002_36, r7002_38, r7002_39, r7002_41, r7002_44, r7002_47, r7002_49, r7002_50, r7002_51, r7002_52, r7002_55, r7002_58, r7002_59, r7002_61, r7002_64, r7002_67, r7002_69, s_stickAt hW hC hk, s_within, s_fw01, hd, h2, h3, h4, hst32, b_eq0, b_eq1, b_0eq, ite_not, not_true_eq_false, not_false_eq_true, ↓reduceIte, va_rf_some, va_rf_none, cat_int, cat_ref, cat_null, cat_jk, q_cs_nil, q_cs_int, q_cs_ref, q_cs_long, q_tl_some, q_tl_none, nz_0, nz_1, nzn_0, nzn_1, nz_b, true_and, and_true, Nat.reduceLeDiff, Nat.reduceAdd, l_0, l_1, l_2, l_3, l_4, l_5, l_6, l_7, l_8, l_9, l_10, l_11, l_12, l_13, l_14, l_15, l_16, l_17, l_18, l_19, l_20, l_24, l_32, l_40, l_41, l_42, l_43, l_45, l_48, l_57, l_59, l_60, l_61, l_63, l_64, l_80, l_96, l_97, l_99, l_100, l_122, l_160, l_200, l_320, l_640, l_999, l_1000, l_1200, l_4000, l_99999, l_100000, l_100001, l_100002, l_100006, l_100010, l_252645135, l_858993459, l_1431655765, n_cl, n_lt, n_le, n_eq, n_in, n_add, n_mul, n_sub, n_div, n_mod, n_addneg, n_negl, n_nege, Nat.add_sub_cancel, d_ltT, d_ltF, d_leT, d_leF, d_eqT, d_eqF, ↓reduceIte, Nat.reduceLeDiff, Nat.reduceAdd, Nat.reduceMul, Nat.reduceSub, Nat.reduceLT, Nat.zero_add, Nat.add_zero, not_false_eq_true, pK_32, pK_33, pK_34, pK_35, pK_36, pK_37, pK_38, pK_39, pK_40, pK_41, pK_42, pK_43, pK_44, pR_32_0, pR_32_1, pR_32_2, pR_32_3, pR_32_4, pR_32_5, pR_32_6, pR_32_7, pR_32_8, pR_33_0, pR_33_1, pR_33_2, pR_33_3, pR_36_0, pR_36_1, pR_36_2, pR_36_3, pR_37_0, pR_37_1, pR_37_3, pR_37_4, pR_42_0, pR_42_3, pK_124, pK_125, pK_126, pK_127, pK_128, pK_129, pK_130, pK_131, pK_132, pK_133, pK_134, pR_124_0, pR_126_0, pR_128_0, pR_130_0, pR_134_0, pR_134_1, and_self]
            exact hQ I (fun _ _ => rfl) hC
        · simp only [if_neg h3] at hQ
          simp (disch := omega) only [r7002_0, r7002_1, r7002_2, r7002_5, r7002_5n, r7002_7, r7002_7n, r7002_9, r7002_9n, r7002_12, r7002_13, r7002_14, r7002_15, r7002_17, r7002_18, r7002_20, r7002_21, r7002_23, r7002_24, r7002_26, r7002_28, r7002_29, r7002_30, r7002_33, r7002_36, r7002_38, r7002_39, r7002_41, r7002_44, r7002_47, r7002_49, r7002_50, r7002_51, r7002_52, r7002_55, r7002_58, r7002_59, r7002_61, r7002_64, r7002_67, r7002_69, s_stickAt hW hC hk, s_within, s_fw01, hd, h2, h3, hst32, b_eq0, b_eq1, b_0eq, ite_not, not_true_eq_false, not_false_eq_true, ↓reduceIte, va_rf_some, va_rf_none, cat_int, cat_ref, cat_null, cat_jk, q_cs_nil, q_cs_int, q_cs_ref, q_cs_long, q_tl_some, q_tl_none, nz_0, nz_1, nzn_0, nzn_1, nz_b, true_and, and_true, Nat.reduceLeDiff, Nat.reduceAdd, l_0, l_1, l_2, l_3, l_4, l_5, l_6, l_7, l_8, l_9, l_10, l_11, l_12, l_13, l_14, l_15, l_16, l_17, l_18, l_19, l_20, l_24, l_32, l_40, l_41, l_42, l_43, l_45, l_48, l_57, l_59, l_60, l_61, l_63, l_64, l_80, l_96, l_97, l_99, l_100, l_122, l_160, l_200, l_320, l_640, l_999, l_1000, l_1200, l_4000, l_99999, l_100000, l_100001, l_100002, l_100006, l_100010, l_252645135, l_858993459, l_1431655765, n_cl, n_lt, n_le, n_eq, n_in, n_add, n_mul, n_sub, n_div, n_mod, n_addneg, n_negl, n_nege, Nat.add_sub_cancel, d_ltT, d_ltF, d_leT, d_leF, d_eqT, d_eqF, ↓reduceIte, Nat.reduceLeDiff, Nat.reduceAdd, Nat.reduceMul, Nat.reduceSub, Nat.reduceLT, Nat.zero_add, Nat.add_zero, not_false_eq_true, pK_32, pK_33, pK_34, pK_35, pK_36, pK_37, pK_38, pK_39, pK_40, pK_41, pK_42, pK_43, pK_44, pR_32_0, pR_32_1, pR_32_2, pR_32_3, pR_32_4, pR_32_5, pR_32_6, pR_32_7, pR_32_8, pR_33_0, pR_33_1, pR_33_2, pR_33_3, pR_36_0, pR_36_1, pR_36_2, pR_36_3, pR_37_0, pR_37_1, pR_37_3, pR_37_4, pR_42_0, pR_42_3, pK_124, pK_125, pK_126, pK_127, pK_128, pK_129, pK_130, pK_131, pK_132, pK_133, pK_134, pR_124_0, pR_126_0, pR_128_0, pR_130_0, pR_134_0, pR_134_1, and_self]
          exact hQ I (fun _ _ => rfl) hC
      · simp only [if_neg h2] at hQ
        simp (disch := omega) only [r7002_0, r7002_1, r7002_2, r7002_5, r7002_5n, r7002_7, r7002_7n, r7002_9, r7002_9n, r7002_12, r7002_13, r7002_14, r7002_15, r7002_17, r7002_18, r7002_20, r7002_21, r7002_23, r7002_24, r7002_26, r7002_28, r7002_29, r7002_30, r7002_33, r7002_36, r7002_38, r7002_39, r7002_41, r7002_44, r7002_47, r7002_49, s_stickAt hW hC hk, s_within, hd, h2, hst32, b_eq0, b_eq1, b_0eq, ite_not, not_true_eq_false, not_false_eq_true, ↓reduceIte, va_rf_some, va_rf_none, cat_int, cat_ref, cat_null, cat_jk, q_cs_nil, q_cs_int, q_cs_ref, q_cs_long, q_tl_some, q_tl_none, nz_0, nz_1, nzn_0, nzn_1, nz_b, true_and, and_true, Nat.reduceLeDiff, Nat.reduceAdd, l_0, l_1, l_2, l_3, l_4, l_5, l_6, l_7, l_8, l_9, l_10, l_11, l_12, l_13, l_14, l_15, l_16, l_17, l_18, l_19, l_20, l_24, l_32, l_40, l_41, l_42, l_43, l_45, l_48, l_57, l_59, l_60, l_61, l_63, l_64, l_80, l_96, l_97, l_99, l_100, l_122, l_160, l_200, l_320, l_640, l_999, l_1000, l_1200, l_4000, l_99999, l_100000, l_100001, l_100002, l_100006, l_100010, l_252645135, l_858993459, l_1431655765, n_cl, n_lt, n_le, n_eq, n_in, n_add, n_mul, n_sub, n_div, n_mod, n_addneg, n_negl, n_nege, Nat.add_sub_cancel, d_ltT, d_ltF, d_leT, d_leF, d_eqT, d_eqF, ↓reduceIte, Nat.reduceLeDiff, Nat.reduceAdd, Nat.reduceMul, Nat.reduceSub, Nat.reduceLT, Nat.zero_add, Nat.add_zero, not_false_eq_true, pK_32, pK_33, pK_34, pK_35, pK_36, pK_37, pK_38, pK_39, pK_40, pK_41, pK_42, pK_43, pK_44, pR_32_0, pR_32_1, pR_32_2, pR_32_3, pR_32_4, pR_32_5, pR_32_6, pR_32_7, pR_32_8, pR_33_0, pR_33_1, pR_33_2, pR_33_3, pR_36_0, pR_36_1, pR_36_2, pR_36_3, pR_37_0, pR_37_1, pR_37_3, pR_37_4, pR_42_0, pR_42_3, pK_124, pK_125, pK_126, pK_127, pK_128, pK_129, pK_130, pK_131, pK_132, pK_133, pK_134, pR_124_0, pR_126_0, pR_128_0, pR_130_0, pR_134_0, pR_134_1, and_self]
        exact hQ I (fun _ _ => rfl) hC
    · simp only [if_neg h1] at hQ
      by_cases hd : Int32.ofNat 0 ≤ x / Int32.ofNat 100 ∧ x / Int32.ofNat 100 ≤ Int32.ofNat 3
      · have h2 := dm_no (B := 3) (m := 399) (lo := 1) (hi := 20) rfl (by omega) (by omega) h1 hd
        simp (disch := omega) only [r7002_0, r7002_1, r7002_2, r7002_5, r7002_5n, r7002_7, r7002_7n, r7002_9, r7002_9n, r7002_12, r7002_13, r7002_14, r7002_15, r7002_17, r7002_18, r7002_20, r7002_21, r7002_23, r7002_24, r7002_26, r7002_28, r7002_29, r7002_30, r7002_33, r7002_36, r7002_38, r7002_39, r7002_41, r7002_44, r7002_47, r7002_49, s_stickAt hW hC hk, s_within, hd, h2, hst32, b_eq0, b_eq1, b_0eq, ite_not, not_true_eq_false, not_false_eq_true, ↓reduceIte, va_rf_some, va_rf_none, cat_int, cat_ref, cat_null, cat_jk, q_cs_nil, q_cs_int, q_cs_ref, q_cs_long, q_tl_some, q_tl_none, nz_0, nz_1, nzn_0, nzn_1, nz_b, true_and, and_true, Nat.reduceLeDiff, Nat.reduceAdd, l_0, l_1, l_2, l_3, l_4, l_5, l_6, l_7, l_8, l_9, l_10, l_11, l_12, l_13, l_14, l_15, l_16, l_17, l_18, l_19, l_20, l_24, l_32, l_40, l_41, l_42, l_43, l_45, l_48, l_57, l_59, l_60, l_61, l_63, l_64, l_80, l_96, l_97, l_99, l_100, l_122, l_160, l_200, l_320, l_640, l_999, l_1000, l_1200, l_4000, l_99999, l_100000, l_100001, l_100002, l_100006, l_100010, l_252645135, l_858993459, l_1431655765, n_cl, n_lt, n_le, n_eq, n_in, n_add, n_mul, n_sub, n_div, n_mod, n_addneg, n_negl, n_nege, Nat.add_sub_cancel, d_ltT, d_ltF, d_leT, d_leF, d_eqT, d_eqF, ↓reduceIte, Nat.reduceLeDiff, Nat.reduceAdd, Nat.reduceMul, Nat.reduceSub, Nat.reduceLT, Nat.zero_add, Nat.add_zero, not_false_eq_true, pK_32, pK_33, pK_34, pK_35, pK_36, pK_37, pK_38, pK_39, pK_40, pK_41, pK_42, pK_43, pK_44, pR_32_0, pR_32_1, pR_32_2, pR_32_3, pR_32_4, pR_32_5, pR_32_6, pR_32_7, pR_32_8, pR_33_0, pR_33_1, pR_33_2, pR_33_3, pR_36_0, pR_36_1, pR_36_2, pR_36_3, pR_37_0, pR_37_1, pR_37_3, pR_37_4, pR_42_0, pR_42_3, pK_124, pK_125, pK_126, pK_127, pK_128, pK_129, pK_130, pK_131, pK_132, pK_133, pK_134, pR_124_0, pR_126_0, pR_128_0, pR_130_0, pR_134_0, pR_134_1, and_self]
        exact hQ I (fun _ _ => rfl) hC
      · simp (disch := omega) only [r7002_0, r7002_1, r7002_2, r7002_5, r7002_5n, r7002_7, r7002_7n, r7002_9, r7002_9n, r7002_12, r7002_13, r7002_14, r7002_15, r7002_17, r7002_18, r7002_20, r7002_21, r7002_23, r7002_24, r7002_26, r7002_28, r7002_29, r7002_30, r7002_33, r7002_36, r7002_38, r7002_39, r7002_41, r7002_44, r7002_47, r7002_49, s_stickAt hW hC hk, s_within, hd, hst32, b_eq0, b_eq1, b_0eq, ite_not, not_true_eq_false, not_false_eq_true, ↓reduceIte, va_rf_some, va_rf_none, cat_int, cat_ref, cat_null, cat_jk, q_cs_nil, q_cs_int, q_cs_ref, q_cs_long, q_tl_some, q_tl_none, nz_0, nz_1, nzn_0, nzn_1, nz_b, true_and, and_true, Nat.reduceLeDiff, Nat.reduceAdd, l_0, l_1, l_2, l_3, l_4, l_5, l_6, l_7, l_8, l_9, l_10, l_11, l_12, l_13, l_14, l_15, l_16, l_17, l_18, l_19, l_20, l_24, l_32, l_40, l_41, l_42, l_43, l_45, l_48, l_57, l_59, l_60, l_61, l_63, l_64, l_80, l_96, l_97, l_99, l_100, l_122, l_160, l_200, l_320, l_640, l_999, l_1000, l_1200, l_4000, l_99999, l_100000, l_100001, l_100002, l_100006, l_100010, l_252645135, l_858993459, l_1431655765, n_cl, n_lt, n_le, n_eq, n_in, n_add, n_mul, n_sub, n_div, n_mod, n_addneg, n_negl, n_nege, Nat.add_sub_cancel, d_ltT, d_ltF, d_leT, d_leF, d_eqT, d_eqF, ↓reduceIte, Nat.reduceLeDiff, Nat.reduceAdd, Nat.reduceMul, Nat.reduceSub, Nat.reduceLT, Nat.zero_add, Nat.add_zero, not_false_eq_true, pK_32, pK_33, pK_34, pK_35, pK_36, pK_37, pK_38, pK_39, pK_40, pK_41, pK_42, pK_43, pK_44, pR_32_0, pR_32_1, pR_32_2, pR_32_3, pR_32_4, pR_32_5, pR_32_6, pR_32_7, pR_32_8, pR_33_0, pR_33_1, pR_33_2, pR_33_3, pR_36_0, pR_36_1, pR_36_2, pR_36_3, pR_37_0, pR_37_1, pR_37_3, pR_37_4, pR_42_0, pR_42_3, pK_124, pK_125, pK_126, pK_127, pK_128, pK_129, pK_130, pK_131, pK_132, pK_133, pK_134, pR_124_0, pR_126_0, pR_128_0, pR_130_0, pR_134_0, pR_134_1]
        exact hQ I (fun _ _ => rfl) hC
  · simp only [p_sels_no hW hi] at hQ
    simp (disch := omega) only [r7002_0, r7002_1, r7002_2, r7002_5, r7002_5n, r7002_7, r7002_7n, r7002_9, r7002_9n, r7002_12, r7002_13, s_stickAt_no hW hC hi, b_eq0, b_eq1, b_0eq, ite_not, not_true_eq_false, not_false_eq_true, ↓reduceIte, va_rf_some, va_rf_none, cat_int, cat_ref, cat_null, cat_jk, q_cs_nil, q_cs_int, q_cs_ref, q_cs_long, q_tl_some, q_tl_none, nz_0, nz_1, nzn_0, nzn_1, nz_b, true_and, and_true, Nat.reduceLeDiff, Nat.reduceAdd, l_0, l_1, l_2, l_3, l_4, l_5, l_6, l_7, l_8, l_9, l_10, l_11, l_12, l_13, l_14, l_15, l_16, l_17, l_18, l_19, l_20, l_24, l_32, l_40, l_41, l_42, l_43, l_45, l_48, l_57, l_59, l_60, l_61, l_63, l_64, l_80, l_96, l_97, l_99, l_100, l_122, l_160, l_200, l_320, l_640, l_999, l_1000, l_1200, l_4000, l_99999, l_100000, l_100001, l_100002, l_100006, l_100010, l_252645135, l_858993459, l_1431655765, n_cl, n_lt, n_le, n_eq, n_in, n_add, n_mul, n_sub, n_div, n_mod, n_addneg, n_negl, n_nege, Nat.add_sub_cancel, d_ltT, d_ltF, d_leT, d_leF, d_eqT, d_eqF, ↓reduceIte, Nat.reduceLeDiff, Nat.reduceAdd, Nat.reduceMul, Nat.reduceSub, Nat.reduceLT, Nat.zero_add, Nat.add_zero, not_false_eq_true, pK_32, pK_33, pK_34, pK_35, pK_36, pK_37, pK_38, pK_39, pK_40, pK_41, pK_42, pK_43, pK_44, pR_32_0, pR_32_1, pR_32_2, pR_32_3, pR_32_4, pR_32_5, pR_32_6, pR_32_7, pR_32_8, pR_33_0, pR_33_1, pR_33_2, pR_33_3, pR_36_0, pR_36_1, pR_36_2, pR_36_3, pR_37_0, pR_37_1, pR_37_3, pR_37_4, pR_42_0, pR_42_3, pK_124, pK_125, pK_126, pK_127, pK_128, pK_129, pK_130, pK_131, pK_132, pK_133, pK_134, pR_124_0, pR_126_0, pR_128_0, pR_130_0, pR_134_0, pR_134_1]
    exact hQ I (fun _ _ => rfl) hC
theorem m_piece (hW : p_wf M) (hM : p_MR I M) {s x l e w : Int32} (hQ : ∀ I', p_mc I I' → p_MR I' (t_piece M s x l e w) → Q (some (.int (a_piece M s x l e w))) (p_h L I' r dk n)) :
    q_wp (d + 9) c 8007 0 [.ref 135, .int s, .int x, .int l, .int e, .int w, q_jk, q_jk] [] (p_h L I r dk n) Q := by
  unfold t_piece a_piece at hQ
  by_cases hi : p_is s (p_sn M)
  · obtain ⟨t0, hk, rfl⟩ := hi
    obtain ⟨e0, h4⟩ := p_sn_eq hW
    have hs4 : t0 < 4 := by omega
    obtain ⟨e2, h6⟩ := p_pc_eq hW hs4
    have e3 : I 137 t0 = Int32.ofNat (p_pc M t0) := by rw [hM.1 137 (by decide) (by decide)]; exact e2
    rw [p_sels_ok hW hk, p_sels_ok hW hk] at hQ
    unfold p_pg at hQ
    have n10 : (Int32.ofNat 1 = Int32.ofNat 0) = False := eq_false (by decide)
    by_cases h1 : Int32.ofNat 0 ≤ x ∧ x ≤ Int32.ofNat 399
    · simp only [if_pos h1] at hQ
      obtain ⟨x', hx', rfl⟩ := x_rng (by omega) h1
      by_cases h2 : Int32.ofNat 1 ≤ Int32.ofNat x' % Int32.ofNat 100 ∧ Int32.ofNat x' % Int32.ofNat 100 ≤ Int32.ofNat 20
      · simp only [if_pos h2] at hQ
        rw [n_mod (by omega) (by omega), n_le (by omega) (by omega), n_le (by omega) (by omega)] at h2
        obtain ⟨h2a, h2b⟩ := h2
        by_cases h3 : Int32.ofNat 0 ≤ l ∧ l ≤ Int32.ofNat 20
        · simp only [if_pos h3] at hQ
          by_cases h4 : Int32.ofNat 0 ≤ e ∧ e ≤ Int32.ofNat 20
          · simp only [if_pos h4] at hQ
            by_cases h5 : Int32.ofNat 1 ≤ w ∧ w ≤ Int32.ofNat 20
            · simp only [if_pos h5] at hQ
              by_cases h7 : p_pc M t0 = 6
              · simp only [if_pos h7] at hQ
                simp (disch := omega) only [r8007_0, r8007_1, r8007_2, r8007_5, r8007_8, r8007_9, r8007_10, r8007_11, r8007_14, r8007_15, r8007_17, r8007_18, r8007_19, r8007_22, r8007_23, r8007_25, r8007_26, r8007_27, r8007_29, r8007_32, r8007_35, r8007_36, r8007_40, r8007_42, r8007_44, r8007_47, r8007_48, r8007_49, r8007_51, r8007_54, r8007_57, r8007_59, r8007_60, r8007_62, r8007_65, r8007_68, r8007_70, r8007_71, r8007_73, r8007_76, r8007_79, r8007_81, r8007_82, r8007_83, r8007_86, r8007_87, r8007_88, r8007_90, r8007_93, r8007_95, m_isStick hW hM hk, m_in, h3, h4, h5, e3, h7, n10, b_eq0, b_eq1, b_0eq, ite_not, not_true_eq_false, not_false_eq_true, ↓reduceIte, va_rf_some, va_rf_none, cat_int, cat_ref, cat_null, cat_jk, q_cs_nil, q_cs_int, q_cs_ref, q_cs_long, q_tl_some, q_tl_none, nz_0, nz_1, nzn_0, nzn_1, nz_b, true_and, and_true, Nat.reduceLeDiff, Nat.reduceAdd, l_0, l_1, l_2, l_3, l_4, l_5, l_6, l_7, l_8, l_9, l_10, l_11, l_12, l_13, l_14, l_15, l_16, l_17, l_18, l_19, l_20, l_24, l_32, l_40, l_41, l_42, l_43, l_45, l_48, l_57, l_59, l_60, l_61, l_63, l_64, l_80, l_96, l_97, l_99, l_100, l_122, l_160, l_200, l_320, l_640, l_999, l_1000, l_1200, l_4000, l_99999, l_100000, l_100001, l_100002, l_100006, l_100010, l_252645135, l_858993459, l_1431655765, n_cl, n_lt, n_le, n_eq, n_in, n_add, n_mul, n_sub, n_div, n_mod, n_addneg, n_negl, n_nege, Nat.add_sub_cancel, d_ltT, d_ltF, d_leT, d_leF, d_eqT, d_eqF, ↓reduceIte, Nat.reduceLeDiff, Nat.reduceAdd, Nat.reduceMul, Nat.reduceSub, Nat.reduceLT, Nat.zero_add, Nat.add_zero, not_false_eq_true, pK_135, pK_136, pK_137, pK_138, pK_139, pK_140, pK_141, pK_142, pK_143, pK_144, pK_145, pK_146, pK_147, pK_148, pK_149, pK_150, pK_151, pK_152, pK_153, pK_154, pK_155, pK_156, pK_157, pK_158, pK_159, pK_160, pK_161, pK_162, pK_163, pK_164, pK_165, pK_166, pK_167, pK_168, pK_169, pK_170, pK_171, pK_172, pK_173, pK_174, pK_175, pK_176, pK_177, pK_178, pR_135_0, pR_135_2, pR_135_3, pR_135_4, pR_135_5, pR_135_6, pR_135_7, pR_135_11, pR_135_12, pR_135_13, pR_135_14, pR_135_15, pR_135_16, pR_135_17, pR_135_19, pR_135_20, pR_135_21, pR_135_23, pR_135_24, pR_135_33, pR_135_34, pR_135_35, pR_135_36, pR_135_37, pR_135_38, pR_135_39, pR_135_40, pR_135_41, pR_135_46, pR_135_47, pR_135_51, pR_135_52, pR_135_53, pR_135_54, pR_135_55, pR_135_56, pR_135_57, pR_135_58, pR_135_59, pR_135_61, pR_135_62, pR_135_63, pR_135_64, and_self]
                exact hQ I (fun _ _ => rfl) hM
              · simp only [if_neg h7] at hQ
                have es : Int32.ofNat (p_pc M t0 + 1) - Int32.ofNat 1 = Int32.ofNat (p_pc M t0) := by rw [n_sub (by omega)]; rfl
                simp (disch := omega) only [r8007_0, r8007_1, r8007_2, r8007_5, r8007_8, r8007_9, r8007_10, r8007_11, r8007_14, r8007_15, r8007_17, r8007_18, r8007_19, r8007_22, r8007_23, r8007_25, r8007_26, r8007_27, r8007_29, r8007_32, r8007_35, r8007_36, r8007_40, r8007_42, r8007_44, r8007_47, r8007_48, r8007_49, r8007_51, r8007_54, r8007_57, r8007_59, r8007_60, r8007_62, r8007_65, r8007_68, r8007_70, r8007_71, r8007_73, r8007_76, r8007_79, r8007_81, r8007_82, r8007_83, r8007_86, r8007_87, r8007_88, r8007_90, r8007_93, r8007_95, r8007_96, r8007_98, r8007_99, r8007_100, r8007_101, r8007_104, r8007_105, r8007_106, r8007_107, r8007_109, r8007_110, r8007_113, r8007_115, r8007_116, r8007_118, r8007_119, r8007_120, r8007_121, r8007_124, r8007_126, r8007_127, r8007_129, r8007_130, r8007_131, r8007_132, r8007_135, r8007_137, r8007_138, r8007_139, r8007_140, r8007_143, r8007_145, r8007_147, r8007_148, r8007_149, r8007_152, r8007_154, r8007_156, r8007_157, r8007_158, r8007_161, r8007_162, r8007_163, r8007_164, r8007_165, r8007_166, r8007_167, r8007_168, r8007_171, r8007_172, r8007_173, r8007_174, r8007_175, m_isStick hW hM hk, m_in, h3, h4, h5, e3, n10, es, q_up_a, q_up_same, b_eq0, b_eq1, b_0eq, ite_not, not_true_eq_false, not_false_eq_true, ↓reduceIte, va_rf_some, va_rf_none, cat_int, cat_ref, cat_null, cat_jk, q_cs_nil, q_cs_int, q_cs_ref, q_cs_long, q_tl_some, q_tl_none, nz_0, nz_1, nzn_0, nzn_1, nz_b, true_and, and_true, Nat.reduceLeDiff, Nat.reduceAdd, l_0, l_1, l_2, l_3, l_4, l_5, l_6, l_7, l_8, l_9, l_10, l_11, l_12, l_13, l_14, l_15, l_16, l_17, l_18, l_19, l_20, l_24, l_32, l_40, l_41, l_42, l_43, l_45, l_48, l_57, l_59, l_60, l_61, l_63, l_64, l_80, l_96, l_97, l_99, l_100, l_122, l_160, l_200, l_320, l_640, l_999, l_1000, l_1200, l_4000, l_99999, l_100000, l_100001, l_100002, l_100006, l_100010, l_252645135, l_858993459, l_1431655765, n_cl, n_lt, n_le, n_eq, n_in, n_add, n_mul, n_sub, n_div, n_mod, n_addneg, n_negl, n_nege, Nat.add_sub_cancel, d_ltT, d_ltF, d_leT, d_leF, d_eqT, d_eqF, ↓reduceIte, Nat.reduceLeDiff, Nat.reduceAdd, Nat.reduceMul, Nat.reduceSub, Nat.reduceLT, Nat.zero_add, Nat.add_zero, not_false_eq_true, pK_135, pK_136, pK_137, pK_138, pK_139, pK_140, pK_141, pK_142, pK_143, pK_144, pK_145, pK_146, pK_147, pK_148, pK_149, pK_150, pK_151, pK_152, pK_153, pK_154, pK_155, pK_156, pK_157, pK_158, pK_159, pK_160, pK_161, pK_162, pK_163, pK_164, pK_165, pK_166, pK_167, pK_168, pK_169, pK_170, pK_171, pK_172, pK_173, pK_174, pK_175, pK_176, pK_177, pK_178, pR_135_0, pR_135_2, pR_135_3, pR_135_4, pR_135_5, pR_135_6, pR_135_7, pR_135_11, pR_135_12, pR_135_13, pR_135_14, pR_135_15, pR_135_16, pR_135_17, pR_135_19, pR_135_20, pR_135_21, pR_135_23, pR_135_24, pR_135_33, pR_135_34, pR_135_35, pR_135_36, pR_135_37, pR_135_38, pR_135_39, pR_135_40, pR_135_41, pR_135_46, pR_135_47, pR_135_51, pR_135_52, pR_135_53, pR_135_54, pR_135_55, pR_135_56, pR_135_57, pR_135_58, pR_135_59, pR_135_61, pR_135_62, pR_135_63, pR_135_64, and_self]
                rw [n_mod (by omega) (by omega), n_div (by omega) (by omega)] at hQ
                refine hQ _ (fun a ha => by simp (disch := omega) only [q_up_fa]) ⟨fun a a1 a2 => ?_, fun k hk => ?_⟩
                · unfold p_pie
                  have := hM.1 a a1 a2
                  funext k
                  unfold q_up
                  simp only [this]
                · unfold p_pie
                  simp (disch := omega) only [q_up_fa]
                  exact hM.2 k hk
            · simp only [if_neg h5] at hQ
              simp (disch := omega) only [r8007_0, r8007_1, r8007_2, r8007_5, r8007_8, r8007_9, r8007_10, r8007_11, r8007_14, r8007_15, r8007_17, r8007_18, r8007_19, r8007_22, r8007_23, r8007_25, r8007_26, r8007_27, r8007_29, r8007_32, r8007_35, r8007_36, r8007_40, r8007_42, r8007_44, r8007_47, r8007_48, r8007_49, r8007_51, r8007_54, r8007_57, r8007_59, r8007_60, r8007_62, r8007_65, r8007_68, r8007_70, r8007_71, r8007_73, r8007_76, r8007_79, r8007_81, m_isStick hW hM hk, m_in, h3, h4, h5, n10, b_eq0, b_eq1, b_0eq, ite_not, not_true_eq_false, not_false_eq_true, ↓reduceIte, va_rf_some, va_rf_none, cat_int, cat_ref, cat_null, cat_jk, q_cs_nil, q_cs_int, q_cs_ref, q_cs_long, q_tl_some, q_tl_none, nz_0, nz_1, nzn_0, nzn_1, nz_b, true_and, and_true, Nat.reduceLeDiff, Nat.reduceAdd, l_0, l_1, l_2, l_3, l_4, l_5, l_6, l_7, l_8, l_9, l_10, l_11, l_12, l_13, l_14, l_15, l_16, l_17, l_18, l_19, l_20, l_24, l_32, l_40, l_41, l_42, l_43, l_45, l_48, l_57, l_59, l_60, l_61, l_63, l_64, l_80, l_96, l_97, l_99, l_100, l_122, l_160, l_200, l_320, l_640, l_999, l_1000, l_1200, l_4000, l_99999, l_100000, l_100001, l_100002, l_100006, l_100010, l_252645135, l_858993459, l_1431655765, n_cl, n_lt, n_le, n_eq, n_in, n_add, n_mul, n_sub, n_div, n_mod, n_addneg, n_negl, n_nege, Nat.add_sub_cancel, d_ltT, d_ltF, d_leT, d_leF, d_eqT, d_eqF, ↓reduceIte, Nat.reduceLeDiff, Nat.reduceAdd, Nat.reduceMul, Nat.reduceSub, Nat.reduceLT, Nat.zero_add, Nat.add_zero, not_false_eq_true, pK_135, pK_136, pK_137, pK_138, pK_139, pK_140, pK_141, pK_142, pK_143, pK_144, pK_145, pK_146, pK_147, pK_148, pK_149, pK_150, pK_151, pK_152, pK_153, pK_154, pK_155, pK_156, pK_157, pK_158, pK_159, pK_160, pK_161, pK_162, pK_163, pK_164, pK_165, pK_166, pK_167, pK_168, pK_169, pK_170, pK_171, pK_172, pK_173, pK_174, pK_175, pK_176, pK_177, pK_178, pR_135_0, pR_135_2, pR_135_3, pR_135_4, pR_135_5, pR_135_6, pR_135_7, pR_135_11, pR_135_12, pR_135_13, pR_135_14, pR_135_15, pR_135_16, pR_135_17, pR_135_19, pR_135_20, pR_135_21, pR_135_23, pR_135_24, pR_135_33, pR_135_34, pR_135_35, pR_135_36, pR_135_37, pR_135_38, pR_135_39, pR_135_40, pR_135_41, pR_135_46, pR_135_47, pR_135_51, pR_135_52, pR_135_53, pR_135_54, pR_135_55, pR_135_56, pR_135_57, pR_135_58, pR_135_59, pR_135_61, pR_135_62, pR_135_63, pR_135_64, and_self]
              exact hQ I (fun _ _ => rfl) hM
          · simp only [if_neg h4] at hQ
            simp (disch := omega) only [r8007_0, r8007_1, r8007_2, r8007_5, r8007_8, r8007_9, r8007_10, r8007_11, r8007_14, r8007_15, r8007_17, r8007_18, r8007_19, r8007_22, r8007_23, r8007_25, r8007_26, r8007_27, r8007_29, r8007_32, r8007_35, r8007_36, r8007_40, r8007_42, r8007_44, r8007_47, r8007_48, r8007_49, r8007_51, r8007_54, r8007_57, r8007_59, r8007_60, r8007_62, r8007_65, r8007_68, r8007_70, r8007_71, r8007_73, r8007_76, r8007_79, r8007_81, m_isStick hW hM hk, m_in, h3, h4, n10, b_eq0, b_eq1, b_0eq, ite_not, not_true_eq_false, not_false_eq_true, ↓reduceIte, va_rf_some, va_rf_none, cat_int, cat_ref, cat_null, cat_jk, q_cs_nil, q_cs_int, q_cs_ref, q_cs_long, q_tl_some, q_tl_none, nz_0, nz_1, nzn_0, nzn_1, nz_b, true_and, and_true, Nat.reduceLeDiff, Nat.reduceAdd, l_0, l_1, l_2, l_3, l_4, l_5, l_6, l_7, l_8, l_9, l_10, l_11, l_12, l_13, l_14, l_15, l_16, l_17, l_18, l_19, l_20, l_24, l_32, l_40, l_41, l_42, l_43, l_45, l_48, l_57, l_59, l_60, l_61, l_63, l_64, l_80, l_96, l_97, l_99, l_100, l_122, l_160, l_200, l_320, l_640, l_999, l_1000, l_1200, l_4000, l_99999, l_100000, l_100001, l_100002, l_100006, l_100010, l_252645135, l_858993459, l_1431655765, n_cl, n_lt, n_le, n_eq, n_in, n_add, n_mul, n_sub, n_div, n_mod, n_addneg, n_negl, n_nege, Nat.add_sub_cancel, d_ltT, d_ltF, d_leT, d_leF, d_eqT, d_eqF, ↓reduceIte, Nat.reduceLeDiff, Nat.reduceAdd, Nat.reduceMul, Nat.reduceSub, Nat.reduceLT, Nat.zero_add, Nat.add_zero, not_false_eq_true, pK_135, pK_136, pK_137, pK_138, pK_139, pK_140, pK_141, pK_142, pK_143, pK_144, pK_145, pK_146, pK_147, pK_148, pK_149, pK_150, pK_151, pK_152, pK_153, pK_154, pK_155, pK_156, pK_157, pK_158, pK_159, pK_160, pK_161, pK_162, pK_163, pK_164, pK_165, pK_166, pK_167, pK_168, pK_169, pK_170, pK_171, pK_172, pK_173, pK_174, pK_175, pK_176, pK_177, pK_178, pR_135_0, pR_135_2, pR_135_3, pR_135_4, pR_135_5, pR_135_6, pR_135_7, pR_135_11, pR_135_12, pR_135_13, pR_135_14, pR_135_15, pR_135_16, pR_135_17, pR_135_19, pR_135_20, pR_135_21, pR_135_23, pR_135_24, pR_135_33, pR_135_34, pR_135_35, pR_135_36, pR_135_37, pR_135_38, pR_135_39, pR_135_40, pR_135_41, pR_135_46, pR_135_47, pR_135_51, pR_135_52, pR_135_53, pR_135_54, pR_135_55, pR_135_56, pR_135_57, pR_135_58, pR_135_59, pR_135_61, pR_135_62, pR_135_63, pR_135_64, and_self]
            exact hQ I (fun _ _ => rfl) hM
        · simp only [if_neg h3] at hQ
          simp (disch := omega) only [r8007_0, r8007_1, r8007_2, r8007_5, r8007_8, r8007_9, r8007_10, r8007_11, r8007_14, r8007_15, r8007_17, r8007_18, r8007_19, r8007_22, r8007_23, r8007_25, r8007_26, r8007_27, r8007_29, r8007_32, r8007_35, r8007_36, r8007_40, r8007_42, r8007_44, r8007_47, r8007_48, r8007_49, r8007_51, r8007_54, r8007_57, r8007_59, r8007_60, r8007_62, r8007_65, r8007_68, r8007_70, r8007_71, r8007_73, r8007_76, r8007_79, r8007_81, m_isStick hW hM hk, m_in, h3, n10, b_eq0, b_eq1, b_0eq, ite_not, not_true_eq_false, not_false_eq_true, ↓reduceIte, va_rf_some, va_rf_none, cat_int, cat_ref, cat_null, cat_jk, q_cs_nil, q_cs_int, q_cs_ref, q_cs_long, q_tl_some, q_tl_none, nz_0, nz_1, nzn_0, nzn_1, nz_b, true_and, and_true, Nat.reduceLeDiff, Nat.reduceAdd, l_0, l_1, l_2, l_3, l_4, l_5, l_6, l_7, l_8, l_9, l_10, l_11, l_12, l_13, l_14, l_15, l_16, l_17, l_18, l_19, l_20, l_24, l_32, l_40, l_41, l_42, l_43, l_45, l_48, l_57, l_59, l_60, l_61, l_63, l_64, l_80, l_96, l_97, l_99, l_100, l_122, l_160, l_200, l_320, l_640, l_999, l_1000, l_1200, l_4000, l_99999, l_100000, l_100001, l_100002, l_100006, l_100010, l_252645135, l_858993459, l_1431655765, n_cl, n_lt, n_le, n_eq, n_in, n_add, n_mul, n_sub, n_div, n_mod, n_addneg, n_negl, n_nege, Nat.add_sub_cancel, d_ltT, d_ltF, d_leT, d_leF, d_eqT, d_eqF, ↓reduceIte, Nat.reduceLeDiff, Nat.reduceAdd, Nat.reduceMul, Nat.reduceSub, Nat.reduceLT, Nat.zero_add, Nat.add_zero, not_false_eq_true, pK_135, pK_136, pK_137, pK_138, pK_139, pK_140, pK_141, pK_142, pK_143, pK_144, pK_145, pK_146, pK_147, pK_148, pK_149, pK_150, pK_151, pK_152, pK_153, pK_154, pK_155, pK_156, pK_157, pK_158, pK_159, pK_160, pK_161, pK_162, pK_163, pK_164, pK_165, pK_166, pK_167, pK_168, pK_169, pK_170, pK_171, pK_172, pK_173, pK_174, pK_175, pK_176, pK_177, pK_178, pR_135_0, pR_135_2, pR_135_3, pR_135_4, pR_135_5, pR_135_6, pR_135_7, pR_135_11, pR_135_12, pR_135_13, pR_135_14, pR_135_15, pR_135_16, pR_135_17, pR_135_19, pR_135_20, pR_135_21, pR_135_23, pR_135_24, pR_135_33, pR_135_34, pR_135_35, pR_135_36, pR_135_37, pR_135_38, pR_135_39, pR_135_40, pR_135_41, pR_135_46, pR_135_47, pR_135_51, pR_135_52, pR_135_53, pR_135_54, pR_135_55, pR_135_56, pR_135_57, pR_135_58, pR_135_59, pR_135_61, pR_135_62, pR_135_63, pR_135_64, and_self]
          exact hQ I (fun _ _ => rfl) hM
      · simp only [if_neg h2] at hQ
        rw [n_mod (by omega) (by omega), n_le (by omega) (by omega), n_le (by omega) (by omega)] at h2
        have h2' : x' % 100 < 1 ∨ 20 < x' % 100 := by omega
        rcases h2' with g | g <;> simp (disch := omega) only [r8007_0, r8007_1, r8007_2, r8007_5, r8007_8, r8007_9, r8007_10, r8007_11, r8007_14, r8007_15, r8007_17, r8007_18, r8007_19, r8007_22, r8007_23, r8007_25, r8007_26, r8007_27, r8007_29, r8007_32, r8007_39, r8007_40, r8007_42, r8007_44, r8007_47, r8007_48, r8007_49, r8007_51, r8007_54, r8007_57, r8007_59, r8007_60, r8007_62, r8007_65, r8007_68, r8007_70, r8007_71, r8007_73, r8007_76, r8007_79, r8007_81, m_isStick hW hM hk, m_in, false_and, and_false, b_eq0, b_eq1, b_0eq, ite_not, not_true_eq_false, not_false_eq_true, ↓reduceIte, va_rf_some, va_rf_none, cat_int, cat_ref, cat_null, cat_jk, q_cs_nil, q_cs_int, q_cs_ref, q_cs_long, q_tl_some, q_tl_none, nz_0, nz_1, nzn_0, nzn_1, nz_b, true_and, and_true, Nat.reduceLeDiff, Nat.reduceAdd, l_0, l_1, l_2, l_3, l_4, l_5, l_6, l_7, l_8, l_9, l_10, l_11, l_12, l_13, l_14, l_15, l_16, l_17, l_18, l_19, l_20, l_24, l_32, l_40, l_41, l_42, l_43, l_45, l_48, l_57, l_59, l_60, l_61, l_63, l_64, l_80, l_96, l_97, l_99, l_100, l_122, l_160, l_200, l_320, l_640, l_999, l_1000, l_1200, l_4000, l_99999, l_100000, l_100001, l_100002, l_100006, l_100010, l_252645135, l_858993459, l_1431655765, n_cl, n_lt, n_le, n_eq, n_in, n_add, n_mul, n_sub, n_div, n_mod, n_addneg, n_negl, n_nege, Nat.add_sub_cancel, d_ltT, d_ltF, d_leT, d_leF, d_eqT, d_eqF, ↓reduceIte, Nat.reduceLeDiff, Nat.reduceAdd, Nat.reduceMul, Nat.reduceSub, Nat.reduceLT, Nat.zero_add, Nat.add_zero, not_false_eq_true, pK_135, pK_136, pK_137, pK_138, pK_139, pK_140, pK_141, pK_142, pK_143, pK_144, pK_145, pK_146, pK_147, pK_148, pK_149, pK_150, pK_151, pK_152, pK_153, pK_154, pK_155, pK_156, pK_157, pK_158, pK_159, pK_160, pK_161, pK_162, pK_163, pK_164, pK_165, pK_166, pK_167, pK_168, pK_169, pK_170, pK_171, pK_172, pK_173, pK_174, pK_175, pK_176, pK_177, pK_178, pR_135_0, pR_135_2, pR_135_3, pR_135_4, pR_135_5, pR_135_6, pR_135_7, pR_135_11, pR_135_12, pR_135_13, pR_135_14, pR_135_15, pR_135_16, pR_135_17, pR_135_19, pR_135_20, pR_135_21, pR_135_23, pR_135_24, pR_135_33, pR_135_34, pR_135_35, pR_135_36, pR_135_37, pR_135_38, pR_135_39, pR_135_40, pR_135_41, pR_135_46, pR_135_47, pR_135_51, pR_135_52, pR_135_53, pR_135_54, pR_135_55, pR_135_56, pR_135_57, pR_135_58, pR_135_59, pR_135_61, pR_135_62, pR_135_63, pR_135_64] <;> exact hQ I (fun _ _ => rfl) hM
    · simp only [if_neg h1] at hQ
      by_cases hn : x < Int32.ofNat 0
      · simp (disch := omega) only [r8007_0, r8007_1, r8007_2, r8007_5, r8007_8, r8007_9, r8007_10, r8007_11, r8007_39, r8007_40, r8007_42, r8007_44, r8007_47, r8007_48, r8007_49, r8007_51, r8007_54, r8007_57, r8007_59, r8007_60, r8007_62, r8007_65, r8007_68, r8007_70, r8007_71, r8007_73, r8007_76, r8007_79, r8007_81, m_isStick hW hM hk, m_in, hn, b_eq0, b_eq1, b_0eq, ite_not, not_true_eq_false, not_false_eq_true, ↓reduceIte, va_rf_some, va_rf_none, cat_int, cat_ref, cat_null, cat_jk, q_cs_nil, q_cs_int, q_cs_ref, q_cs_long, q_tl_some, q_tl_none, nz_0, nz_1, nzn_0, nzn_1, nz_b, true_and, and_true, Nat.reduceLeDiff, Nat.reduceAdd, l_0, l_1, l_2, l_3, l_4, l_5, l_6, l_7, l_8, l_9, l_10, l_11, l_12, l_13, l_14, l_15, l_16, l_17, l_18, l_19, l_20, l_24, l_32, l_40, l_41, l_42, l_43, l_45, l_48, l_57, l_59, l_60, l_61, l_63, l_64, l_80, l_96, l_97, l_99, l_100, l_122, l_160, l_200, l_320, l_640, l_999, l_1000, l_1200, l_4000, l_99999, l_100000, l_100001, l_100002, l_100006, l_100010, l_252645135, l_858993459, l_1431655765, n_cl, n_lt, n_le, n_eq, n_in, n_add, n_mul, n_sub, n_div, n_mod, n_addneg, n_negl, n_nege, Nat.add_sub_cancel, d_ltT, d_ltF, d_leT, d_leF, d_eqT, d_eqF, ↓reduceIte, Nat.reduceLeDiff, Nat.reduceAdd, Nat.reduceMul, Nat.reduceSub, Nat.reduceLT, Nat.zero_add, Nat.add_zero, not_false_eq_true, pK_135, pK_136, pK_137, pK_138, pK_139, pK_140, pK_141, pK_142, pK_143, pK_144, pK_145, pK_146, pK_147, pK_148, pK_149, pK_150, pK_151, pK_152, pK_153, pK_154, pK_155, pK_156, pK_157, pK_158, pK_159, pK_160, pK_161, pK_162, pK_163, pK_164, pK_165, pK_166, pK_167, pK_168, pK_169, pK_170, pK_171, pK_172, pK_173, pK_174, pK_175, pK_176, pK_177, pK_178, pR_135_0, pR_135_2, pR_135_3, pR_135_4, pR_135_5, pR_135_6, pR_135_7, pR_135_11, pR_135_12, pR_135_13, pR_135_14, pR_135_15, pR_135_16, pR_135_17, pR_135_19, pR_135_20, pR_135_21, pR_135_23, pR_135_24, pR_135_33, pR_135_34, pR_135_35, pR_135_36, pR_135_37, pR_135_38, pR_135_39, pR_135_40, pR_135_41, pR_135_46, pR_135_47, pR_135_51, pR_135_52, pR_135_53, pR_135_54, pR_135_55, pR_135_56, pR_135_57, pR_135_58, pR_135_59, pR_135_61, pR_135_62, pR_135_63, pR_135_64]
        exact hQ I (fun _ _ => rfl) hM
      · obtain ⟨x', hx', rfl⟩ := x_nat (Int32.not_lt.1 hn)
        rw [n_le (by omega) hx', n_le hx' (by omega)] at h1
        simp (disch := omega) only [r8007_0, r8007_1, r8007_2, r8007_5, r8007_8, r8007_9, r8007_10, r8007_11, r8007_14, r8007_15, r8007_17, r8007_18, r8007_19, r8007_39, r8007_40, r8007_42, r8007_44, r8007_47, r8007_48, r8007_49, r8007_51, r8007_54, r8007_57, r8007_59, r8007_60, r8007_62, r8007_65, r8007_68, r8007_70, r8007_71, r8007_73, r8007_76, r8007_79, r8007_81, m_isStick hW hM hk, m_in, b_eq0, b_eq1, b_0eq, ite_not, not_true_eq_false, not_false_eq_true, ↓reduceIte, va_rf_some, va_rf_none, cat_int, cat_ref, cat_null, cat_jk, q_cs_nil, q_cs_int, q_cs_ref, q_cs_long, q_tl_some, q_tl_none, nz_0, nz_1, nzn_0, nzn_1, nz_b, true_and, and_true, Nat.reduceLeDiff, Nat.reduceAdd, l_0, l_1, l_2, l_3, l_4, l_5, l_6, l_7, l_8, l_9, l_10, l_11, l_12, l_13, l_14, l_15, l_16, l_17, l_18, l_19, l_20, l_24, l_32, l_40, l_41, l_42, l_43, l_45, l_48, l_57, l_59, l_60, l_61, l_63, l_64, l_80, l_96, l_97, l_99, l_100, l_122, l_160, l_200, l_320, l_640, l_999, l_1000, l_1200, l_4000, l_99999, l_100000, l_100001, l_100002, l_100006, l_100010, l_252645135, l_858993459, l_1431655765, n_cl, n_lt, n_le, n_eq, n_in, n_add, n_mul, n_sub, n_div, n_mod, n_addneg, n_negl, n_nege, Nat.add_sub_cancel, d_ltT, d_ltF, d_leT, d_leF, d_eqT, d_eqF, ↓reduceIte, Nat.reduceLeDiff, Nat.reduceAdd, Nat.reduceMul, Nat.reduceSub, Nat.reduceLT, Nat.zero_add, Nat.add_zero, not_false_eq_true, pK_135, pK_136, pK_137, pK_138, pK_139, pK_140, pK_141, pK_142, pK_143, pK_144, pK_145, pK_146, pK_147, pK_148, pK_149, pK_150, pK_151, pK_152, pK_153, pK_154, pK_155, pK_156, pK_157, pK_158, pK_159, pK_160, pK_161, pK_162, pK_163, pK_164, pK_165, pK_166, pK_167, pK_168, pK_169, pK_170, pK_171, pK_172, pK_173, pK_174, pK_175, pK_176, pK_177, pK_178, pR_135_0, pR_135_2, pR_135_3, pR_135_4, pR_135_5, pR_135_6, pR_135_7, pR_135_11, pR_135_12, pR_135_13, pR_135_14, pR_135_15, pR_135_16, pR_135_17, pR_135_19, pR_135_20, pR_135_21, pR_135_23, pR_135_24, pR_135_33, pR_135_34, pR_135_35, pR_135_36, pR_135_37, pR_135_38, pR_135_39, pR_135_40, pR_135_41, pR_135_46, pR_135_47, pR_135_51, pR_135_52, pR_135_53, pR_135_54, pR_135_55, pR_135_56, pR_135_57, pR_135_58, pR_135_59, pR_135_61, pR_135_62, pR_135_63, pR_135_64]
        exact hQ I (fun _ _ => rfl) hM
  · simp only [p_sels_no hW hi] at hQ
    simp (disch := omega) only [r8007_0, r8007_1, r8007_2, r8007_5, r8007_8, r8007_9, m_isStick_no hW hM hi, b_eq0, b_eq1, b_0eq, ite_not, not_true_eq_false, not_false_eq_true, ↓reduceIte, va_rf_some, va_rf_none, cat_int, cat_ref, cat_null, cat_jk, q_cs_nil, q_cs_int, q_cs_ref, q_cs_long, q_tl_some, q_tl_none, nz_0, nz_1, nzn_0, nzn_1, nz_b, true_and, and_true, Nat.reduceLeDiff, Nat.reduceAdd, l_0, l_1, l_2, l_3, l_4, l_5, l_6, l_7, l_8, l_9, l_10, l_11, l_12, l_13, l_14, l_15, l_16, l_17, l_18, l_19, l_20, l_24, l_32, l_40, l_41, l_42, l_43, l_45, l_48, l_57, l_59, l_60, l_61, l_63, l_64, l_80, l_96, l_97, l_99, l_100, l_122, l_160, l_200, l_320, l_640, l_999, l_1000, l_1200, l_4000, l_99999, l_100000, l_100001, l_100002, l_100006, l_100010, l_252645135, l_858993459, l_1431655765, n_cl, n_lt, n_le, n_eq, n_in, n_add, n_mul, n_sub, n_div, n_mod, n_addneg, n_negl, n_nege, Nat.add_sub_cancel, d_ltT, d_ltF, d_leT, d_leF, d_eqT, d_eqF, ↓reduceIte, Nat.reduceLeDiff, Nat.reduceAdd, Nat.reduceMul, Nat.reduceSub, Nat.reduceLT, Nat.zero_add, Nat.add_zero, not_false_eq_true, pK_135, pK_136, pK_137, pK_138, pK_139, pK_140, pK_141, pK_142, pK_143, pK_144, pK_145, pK_146, pK_147, pK_148, pK_149, pK_150, pK_151, pK_152, pK_153, pK_154, pK_155, pK_156, pK_157, pK_158, pK_159, pK_160, pK_161, pK_162, pK_163, pK_164, pK_165, pK_166, pK_167, pK_168, pK_169, pK_170, pK_171, pK_172, pK_173, pK_174, pK_175, pK_176, pK_177, pK_178, pR_135_0, pR_135_2, pR_135_3, pR_135_4, pR_135_5, pR_135_6, pR_135_7, pR_135_11, pR_135_12, pR_135_13, pR_135_14, pR_135_15, pR_135_16, pR_135_17, pR_135_19, pR_135_20, pR_135_21, pR_135_23, pR_135_24, pR_135_33, pR_135_34, pR_135_35, pR_135_36, pR_135_37, pR_135_38, pR_135_39, pR_135_40, pR_135_41, pR_135_46, pR_135_47, pR_135_51, pR_135_52, pR_135_53, pR_135_54, pR_135_55, pR_135_56, pR_135_57, pR_135_58, pR_135_59, pR_135_61, pR_135_62, pR_135_63, pR_135_64]
    exact hQ I (fun _ _ => rfl) hM
end
